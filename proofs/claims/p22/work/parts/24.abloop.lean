/-! methods with loops: a place in the code where the walk is cut, the bounds of the variables there, and a number that falls from cut to cut -/
def ab_ev : List Int → (Nat → Int) → Nat → Int
  | [], _, _ => 0
  | c :: r, o, k => c * o k + ab_ev r o (k + 1)
def ab_va : List Int → List Int → List Int
  | [], v => v
  | a :: u, [] => a :: u
  | a :: u, b :: v => (a + b) :: ab_va u v
def ab_un (i : Nat) (c : Int) : List Int := List.replicate i 0 ++ [c]
theorem ab_eva : ∀ (u v : List Int) (o : Nat → Int) (k : Nat), ab_ev (ab_va u v) o k = ab_ev u o k + ab_ev v o k
  | [], v, o, k => by simp [ab_va, ab_ev]
  | a :: u, [], o, k => by simp [ab_va, ab_ev]
  | a :: u, b :: v, o, k => by
    simp only [ab_va, ab_ev, ab_eva u v o (k + 1), Int.add_mul]
    omega
theorem ab_evn : ∀ (u : List Int) (o : Nat → Int) (k : Nat), ab_ev (u.map (fun c => -c)) o k = - ab_ev u o k
  | [], o, k => by simp [ab_ev]
  | a :: u, o, k => by
    simp only [List.map_cons, ab_ev, ab_evn u o (k + 1), Int.neg_mul]
    omega
theorem ab_evu : ∀ (i : Nat) (c : Int) (o : Nat → Int) (k : Nat), ab_ev (ab_un i c) o k = c * o (k + i)
  | 0, c, o, k => by simp [ab_un, ab_ev]
  | i + 1, c, o, k => by
    have := ab_evu i c o (k + 1)
    unfold ab_un at this ⊢
    rw [List.replicate_succ, List.cons_append, ab_ev, this, show k + 1 + i = k + (i + 1) by omega]
    omega
def ab_nb (al : ab_L) : List Int → Nat → Option (Int × List Int)
  | [], _ => some (0, [])
  | c :: r, k => match ab_nb al r (k + 1) with
    | none => none
    | some q => if c = 0 then some q else match al[k]? with
      | some (some (.inr (.inl (lo, hi, _, dl)))) => (match dl with
        | some d => some (q.1 + c * d.2, ab_va (ab_un d.1 c) q.2)
        | none => some (q.1 + (if 0 ≤ c then c * hi else c * lo), q.2))
      | _ => none
abbrev ab_lo (lv : ex_L) : Nat → Int := fun i => (ab_li lv i).getD 0
theorem ab_lii {o : Nat → Int} {al : ab_L} {lv : ex_L} {k : Nat} {a : ab_I} (g : ab_cl o al lv) (e : al[k]? = some (some (.inr (.inl a)))) : (a.1 ≤ ab_lo lv k ∧ ab_lo lv k ≤ a.2.1) ∧ ∀ q, a.2.2.2 = some q → ab_lo lv k = o q.1 + q.2 := by
  obtain ⟨v, hv, x, rfl, h1, h2⟩ := g.2 _ _ e
  have : ab_lo lv k = x.toInt := by
    show (ab_li lv k).getD 0 = x.toInt
    unfold ab_li
    rw [hv]
    rfl
  rw [this]
  exact ⟨h1, h2⟩
theorem ab_nbk {o : Nat → Int} {al : ab_L} {lv : ex_L} (g : ab_cl o al lv) : ∀ {l : List Int} {k : Nat} {q : Int × List Int}, ab_nb al l k = some q → ab_ev l (ab_lo lv) k ≤ q.1 + ab_ev q.2 o 0
  | [], k, q, h => by
    cases h
    simp [ab_ev]
  | c :: r, k, q, h => by
    unfold ab_nb at h
    split at h
    · cases h
    · rename_i q0 e0
      have ih := ab_nbk g e0
      show c * ab_lo lv k + ab_ev r (ab_lo lv) (k + 1) ≤ _
      split at h
      · rename_i hc
        cases h
        subst hc
        omega
      · split at h
        · rename_i lo hi og dl ea
          have hh := ab_lii g ea
          dsimp only at hh
          split at h
          · rename_i d
            cases h
            have := hh.2 _ rfl
            rw [this]
            show _ ≤ q0.1 + c * d.2 + ab_ev (ab_va (ab_un d.1 c) q0.2) o 0
            rw [ab_eva, ab_evu, Nat.zero_add, Int.mul_add]
            omega
          · cases h
            show _ ≤ q0.1 + (if 0 ≤ c then c * hi else c * lo) + ab_ev q0.2 o 0
            split
            · rename_i h0
              have := Int.mul_le_mul_of_nonneg_left hh.1.2 h0
              omega
            · rename_i h0
              have := Int.mul_le_mul_of_nonpos_left (a := c) (by omega) hh.1.1
              omega
        · cases h
def ab_lb (ql : ab_L) : List Int → Nat → Option Int
  | [], _ => some 0
  | c :: r, k => match ab_lb ql r (k + 1) with
    | none => none
    | some s => if c = 0 then some s else match ql[k]? with
      | some (some (.inr (.inl (lo, hi, _, _)))) => some (s + (if 0 ≤ c then c * lo else c * hi))
      | _ => none
theorem ab_lbk {o : Nat → Int} {ql : ab_L} (g : ∀ (i : Nat) a, ql[i]? = some (some (.inr (.inl a))) → a.1 ≤ o i ∧ o i ≤ a.2.1) : ∀ {l : List Int} {k : Nat} {s : Int}, ab_lb ql l k = some s → s ≤ ab_ev l o k
  | [], k, s, h => by
    cases h
    simp [ab_ev]
  | c :: r, k, s, h => by
    unfold ab_lb at h
    split at h
    · cases h
    · rename_i s0 e0
      have ih := ab_lbk g e0
      show _ ≤ c * o k + ab_ev r o (k + 1)
      split at h
      · rename_i hc
        cases h
        subst hc
        omega
      · split at h
        · rename_i lo hi og dl ea
          have hh := g _ _ ea
          dsimp only at hh
          cases h
          split
          · rename_i h0
            have := Int.mul_le_mul_of_nonneg_left hh.1 h0
            omega
          · rename_i h0
            have := Int.mul_le_mul_of_nonpos_left (a := c) (by omega) hh.2
            omega
        · cases h
def ab_rk (p : Option ab_Q) (q : ab_Q) (al : ab_L) : Bool := match p with
  | none => true
  | some p => match ab_nb al q.2.2.2 0 with
    | none => false
    | some n => match ab_lb p.2.1 (ab_va p.2.2.2 (n.2.map (fun c => -c))) 0 with
      | none => false
      | some b => decide (q.2.2.1 + n.1 + 1 ≤ p.2.2.1 + b)
def ab_ll (a : Option ab_V) (t : Option ab_V) : Bool := match t, a with
  | none, some (.inr (.inr _)) => false
  | none, _ => true
  | some (.inl k), some (.inl k') => decide (k' = k)
  | some (.inr (.inl x)), some (.inr (.inl y)) => decide (x.1 ≤ y.1) && decide (y.2.1 ≤ x.2.1)
  | some (.inr (.inr x)), some (.inr (.inr y)) => decide (x.1 ≤ y.1) && decide (y.2 ≤ x.2)
  | _, _ => false
def ab_lle : ab_L → ab_L → Bool
  | [], [] => true
  | a :: r, t :: s => ab_ll a t && ab_lle r s
  | _, _ => false
def ab_nd1 (f : Nat → Option (Nat × Int)) (i : Nat) (a : Option ab_V) : Option ab_V := match a with
  | some (.inr (.inl x)) => some (.inr (.inl (x.1, x.2.1, none, f i)))
  | b => b
def ab_nd (f : Nat → Option (Nat × Int)) (ql : ab_L) : ab_L := ql.mapIdx (ab_nd1 f)
abbrev ab_fn : Nat → Option (Nat × Int) := fun _ => none
abbrev ab_fi : Nat → Option (Nat × Int) := fun i => some (i, 0)
theorem ab_llek : ∀ {al ql : ab_L}, ab_lle al ql = true → al.length = ql.length ∧ ∀ (i : Nat) t, ql[i]? = some t → ∃ a, al[i]? = some a ∧ ab_ll a t = true
  | [], [], _ => ⟨rfl, fun i t h => by simp at h⟩
  | a :: r, t :: s, h => by
    obtain ⟨h1, h2⟩ := ab_b h
    obtain ⟨g1, g2⟩ := ab_llek h2
    refine ⟨by simp [g1], fun i t' ht => ?_⟩
    cases i with
    | zero =>
      simp at ht
      subst ht
      exact ⟨a, rfl, h1⟩
    | succ i =>
      simp at ht
      obtain ⟨b, hb, hc⟩ := g2 i t' ht
      exact ⟨b, by simpa using hb, hc⟩
  | [], _ :: _, h => by cases h
  | _ :: _, [], h => by cases h
theorem ab_llk {o o' : Nat → Int} {a t : Option ab_V} {v : Option Value} {i : Nat} (h : ab_ll a t = true) (g : ab_c1 o a v) : ab_c1 o' (ab_nd1 ab_fn i t) v := by
  unfold ab_ll at h
  split at h
  · cases h
  · rename_i hne
    show ∀ w, v = some w → w.category = 1
    intro w hw
    unfold ab_c1 at g
    split at g
    · exact g w hw
    · rw [g] at hw; cases hw; rfl
    · obtain ⟨x, e, -⟩ := g; rw [e] at hw; cases hw; rfl
    · rename_i l; exact absurd rfl (hne l)
  · have := of_decide_eq_true h
    subst this
    exact g
  · obtain ⟨h1, h2⟩ := ab_a h
    have h3 := of_decide_eq_true h2
    obtain ⟨x, e, h4, -⟩ := g
    exact ⟨x, e, ⟨(by dsimp only; omega), (by dsimp only; omega)⟩, fun _ h => (by cases h)⟩
  · obtain ⟨h1, h2⟩ := ab_a h
    have h3 := of_decide_eq_true h2
    obtain ⟨x, e, h4, h5⟩ := g
    exact ⟨x, e, by omega, by omega⟩
  · cases h
theorem ab_cutk {o o' : Nat → Int} {al ql : ab_L} {lv : ex_L} (h : ab_lle al ql = true) (g : ab_cl o al lv) : ab_cl o' (ab_nd ab_fn ql) lv := by
  obtain ⟨h1, h2⟩ := ab_llek h
  refine ⟨by unfold ab_nd; rw [List.length_mapIdx, ← h1]; exact g.1, fun i a ha => ?_⟩
  unfold ab_nd at ha
  rw [List.getElem?_mapIdx] at ha
  cases hq : ql[i]? with
  | none => rw [hq] at ha; cases ha
  | some t =>
    rw [hq] at ha
    cases ha
    obtain ⟨b, hb, hc⟩ := h2 i t hq
    obtain ⟨v, hv, g2⟩ := g.2 i b hb
    exact ⟨v, hv, ab_llk hc g2⟩
theorem ab_ndi {o : Nat → Int} {ql : ab_L} {lv : ex_L} (g : ab_cl o (ab_nd ab_fn ql) lv) {i : Nat} {t : Option ab_V} (e : ql[i]? = some t) : ∃ v, lv[i]? = some v ∧ ab_c1 o (ab_nd1 ab_fn i t) v := by
  refine g.2 i _ ?_
  unfold ab_nd
  rw [List.getElem?_mapIdx, e]
  rfl
theorem ab_inik {o : Nat → Int} {ql : ab_L} {lv : ex_L} (g : ab_cl o (ab_nd ab_fn ql) lv) : ab_cl (ab_lo lv) (ab_nd ab_fi ql) lv := by
  refine ⟨?_, fun i a ha => ?_⟩
  · have := g.1
    unfold ab_nd at this ⊢
    rw [List.length_mapIdx] at this ⊢
    exact this
  · unfold ab_nd at ha
    rw [List.getElem?_mapIdx] at ha
    cases hq : ql[i]? with
    | none => rw [hq] at ha; cases ha
    | some t =>
      rw [hq] at ha
      cases ha
      obtain ⟨v, hv, g2⟩ := ab_ndi g hq
      refine ⟨v, hv, ?_⟩
      match t, g2 with
      | none, g2 => exact g2
      | some (.inl k), g2 => exact g2
      | some (.inr (.inl x)), g2 =>
        obtain ⟨y, e, h1, -⟩ := g2
        subst e
        refine ⟨y, rfl, h1, fun q hq => ?_⟩
        cases hq
        show y.toInt = (ab_li lv i).getD 0 + 0
        unfold ab_li
        rw [hv]
        simp
      | some (.inr (.inr l)), g2 => exact g2
theorem ab_cutb {o : Nat → Int} {ql : ab_L} {lv : ex_L} (g : ab_cl o (ab_nd ab_fn ql) lv) : ∀ (i : Nat) a, ql[i]? = some (some (.inr (.inl a))) → a.1 ≤ ab_lo lv i ∧ ab_lo lv i ≤ a.2.1 := by
  intro i a e
  obtain ⟨v, hv, x, rfl, h1, -⟩ := ab_ndi g e
  have : ab_lo lv i = x.toInt := by
    show (ab_li lv i).getD 0 = x.toInt
    unfold ab_li
    rw [hv]
    rfl
  rw [this]
  exact h1
def ab_rank (q : ab_Q) (lv : ex_L) : Int := q.2.2.1 + ab_ev q.2.2.2 (ab_lo lv) 0
theorem ab_rkk {o : Nat → Int} {p q : ab_Q} {al : ab_L} {lv0 lv : ex_L} (h : ab_rk (some p) q al = true) (g : ab_cl (ab_lo lv0) al lv) (g0 : ab_cl o (ab_nd ab_fn p.2.1) lv0) : ab_rank q lv < ab_rank p lv0 := by
  unfold ab_rk at h
  dsimp only at h
  split at h
  · cases h
  · rename_i n e1
    split at h
    · cases h
    · rename_i b e2
      have h1 := ab_nbk g e1
      have h2 := ab_lbk (ab_cutb g0) e2
      rw [ab_eva, ab_evn] at h2
      have h3 := of_decide_eq_true h
      unfold ab_rank
      omega
def ab_J (p : Option ab_Q) (qs : List ab_Q) (pc : Nat) : Option (ab_L → List ab_V → ab_F → Bool) := (qs.find? (fun q => q.1 == pc)).map (fun q al as _ => as.isEmpty && (ab_lle al q.2.1 && ab_rk p q al))
def ab_pf (ts : List ab_T) (al : ab_L) (fc : ab_F) (q : ab_Y × Int × Int) : Bool := match q.1 with
  | (0, i, _) => (match ts[i]?, al[i]? with
    | some (.inr _), some (some (.inr (.inl (lo, hi, _, some d)))) => decide (d.1 = i) && (decide (d.2 = 0) && (decide (q.2.1 ≤ lo) && decide (hi ≤ q.2.2)))
    | _, _ => false)
  | (3, i, c) => (match ts[i]?, al[i]? with
    | some (.inr _), some (some (.inr (.inl (_, _, _, some d)))) => decide (d.1 = i) && (decide (d.2 = 0) && fc.any (fun f => f.1 == (3, i, c) && (decide (q.2.1 ≤ f.2.1) && decide (f.2.2 ≤ q.2.2))))
    | _, _ => false)
  | _ => false
def ab_er (s : Option (Int × Int)) (r : Option ab_I) : Bool := match s, r with
  | none, none => true
  | some q, some x => decide (q.1 ≤ x.1) && decide (x.2.1 ≤ q.2)
  | _, _ => false
def ab_pc (fc : ab_F) (q : ab_Y × Int × Int) : Bool := q.1.1 == 1 && fc.any (fun f => f.1 == q.1 && (decide (q.2.1 ≤ f.2.1) && decide (f.2.2 ≤ q.2.2)))
theorem ab_pck {fc : ab_F} {q : ab_Y × Int × Int} {lv : ex_L} {cs : ex_C} (h : ab_pc fc q = true) (hf : ab_cf lv cs fc) : ∃ x, ab_kv [] cs q.1 = some x ∧ q.2.1 ≤ x ∧ x ≤ q.2.2 := by
  obtain ⟨h1, h2⟩ := ab_b h
  obtain ⟨f, hm, h3⟩ := List.any_eq_true.mp h2
  obtain ⟨h4, h5⟩ := ab_b h3
  obtain ⟨h6, h7⟩ := ab_a h5
  have h8 := of_decide_eq_true h7
  have e : f.1 = q.1 := by simpa using h4
  obtain ⟨z, hz, z1, z2⟩ := hf f hm
  rw [e] at hz
  obtain ⟨⟨a, b, c⟩, lo, hi⟩ := q
  have ha : a = 1 := by simpa using h1
  subst ha
  exact ⟨z, hz, by omega, by omega⟩
def ab_E (en : Bool) (c : ab_C) (r : Option ab_I) (al : ab_L) (fc : ab_F) : Bool := c.2.2.2.any (fun s => ab_er s.1 r && (s.2.1.all (fun q => en && ab_pf c.1 al fc q) && s.2.2.all (ab_pc fc)))
def ab_a1 (i : Nat) (t : ab_T) : Option ab_V := match t with
  | .inl k => some (.inl k)
  | .inr q => some (.inr (.inl (q.1, q.2, none, some (i, 0))))
def ab_al0 (ts : List ab_T) (maxL : Nat) : ab_L := ts.mapIdx ab_a1 ++ List.replicate (maxL - ts.length) none
def ab_ck (hd : List ab_H) (xs : List (Nat × Int × Int)) (cx : ex_K) (cm : Nat → Option (Nat × Option Nat × List ab_C)) (code : List (Nat × Instr × Nat)) (ret : Option FieldType) (maxL fuel : Nat) (c : ab_C × List ab_Q) : Bool :=
  decide (c.1.1.length ≤ maxL) && (ab_wp hd xs cx cm code ret c.1.2.2.1 (ab_E true c.1) (ab_J none c.2) fuel 0 (ab_al0 c.1.1 maxL) [] c.1.2.1 && c.2.all (fun p => (match ab_lb p.2.1 p.2.2.2 0 with
    | some b => decide (0 ≤ p.2.2.1 + b)
    | none => false) && ab_wp hd xs cx cm code ret c.1.2.2.1 (ab_E false c.1) (ab_J (some p) c.2) fuel p.1 (ab_nd ab_fi p.2.1) [] []))
theorem ab_l0li {av : ex_V} {maxL i : Nat} {z : Int} (h : ab_li (av.map some) i = some z) : ab_li (ex_l0 av maxL) i = some z := by
  unfold ab_li ex_l0 at *
  by_cases hi : i < (av.map some).length
  · rw [List.getElem?_append_left hi]
    exact h
  · rw [List.getElem?_eq_none (by omega)] at h
    cases h
theorem ab_l0kv {av : ex_V} {maxL : Nat} {cs : ex_C} {y : ab_Y} {z : Int} (h : ab_kv (av.map some) cs y = some z) : ab_kv (ex_l0 av maxL) cs y = some z := by
  obtain ⟨a, b, c⟩ := y
  match a with
  | 0 => exact ab_l0li h
  | 1 => exact h
  | 2 =>
    have h' : (ab_li (av.map some) c).bind (fun x => if 0 ≤ x then ab_ri cs b x.toNat else none) = some z := h
    show (ab_li (ex_l0 av maxL) c).bind (fun x => if 0 ≤ x then ab_ri cs b x.toNat else none) = some z
    cases hl : ab_li (av.map some) c with
    | none => rw [hl] at h'; cases h'
    | some x => rw [hl] at h'; rw [ab_l0li hl]; exact h'
  | 3 =>
    have h' : (ab_li (av.map some) b).map (fun x => x.tmod (c : Int)) = some z := h
    show (ab_li (ex_l0 av maxL) b).map (fun x => x.tmod (c : Int)) = some z
    cases hl : ab_li (av.map some) b with
    | none => rw [hl] at h'; cases h'
    | some x => rw [hl] at h'; rw [ab_l0li hl]; exact h'
  | 4 =>
    have h' : (ab_ri cs (b / 1000) (b % 1000)).bind (fun x => (ab_li (av.map some) c).map (fun z => x - z)) = some z := h
    show (ab_ri cs (b / 1000) (b % 1000)).bind (fun x => (ab_li (ex_l0 av maxL) c).map (fun z => x - z)) = some z
    cases hl : ab_li (av.map some) c with
    | none => rw [hl] at h'; cases hr : ab_ri cs (b / 1000) (b % 1000) <;> rw [hr] at h' <;> cases h'
    | some x => rw [hl] at h'; rw [ab_l0li hl]; exact h'
  | 5 =>
    have h' : (ab_ri cs (b / 1000) (b % 1000)).bind (fun x => (ab_li (av.map some) c).map (fun z => x + z)) = some z := h
    show (ab_ri cs (b / 1000) (b % 1000)).bind (fun x => (ab_li (ex_l0 av maxL) c).map (fun z => x + z)) = some z
    cases hl : ab_li (av.map some) c with
    | none => rw [hl] at h'; cases hr : ab_ri cs (b / 1000) (b % 1000) <;> rw [hr] at h' <;> cases h'
    | some x => rw [hl] at h'; rw [ab_l0li hl]; exact h'
  | n + 6 => cases h
theorem ab_al0k {ts : List ab_T} {av : ex_V} {maxL : Nat} (h1 : av.length = ts.length) (h2 : ∀ (i : Nat) t, ts[i]? = some t → ∃ v, av[i]? = some v ∧ ab_ct t v) : ab_cl (ab_lo (ex_l0 av maxL)) (ab_al0 ts maxL) (ex_l0 av maxL) := by
  refine ⟨by unfold ab_al0 ex_l0; simp [h1], fun i a ha => ?_⟩
  unfold ab_al0 at ha
  by_cases hi : i < ts.length
  · rw [List.getElem?_append_left (by rw [List.length_mapIdx]; exact hi), List.getElem?_mapIdx, List.getElem?_eq_getElem hi] at ha
    cases ha
    obtain ⟨v, hv, hc⟩ := h2 i ts[i] (List.getElem?_eq_getElem hi)
    have hm : (ex_l0 av maxL)[i]? = some (some v) := by
      unfold ex_l0
      rw [List.getElem?_append_left (by rw [List.length_map]; omega), List.getElem?_map, hv]
      rfl
    refine ⟨some v, hm, ?_⟩
    unfold ab_a1
    unfold ab_ct at hc
    split
    · rename_i k e
      rw [e] at hc
      rw [hc]
      rfl
    · rename_i q e
      rw [e] at hc
      obtain ⟨x, rfl, x1, x2⟩ := hc
      refine ⟨x, rfl, ⟨x1, x2⟩, fun d hd => ?_⟩
      cases hd
      show x.toInt = (ab_li (ex_l0 av maxL) i).getD 0 + 0
      unfold ab_li
      rw [hm]
      simp
  · rw [List.getElem?_append_right (by rw [List.length_mapIdx]; omega), List.length_mapIdx, List.getElem?_replicate] at ha
    split at ha
    · rename_i hlt
      cases ha
      refine ⟨none, ?_, fun w hw => by cases hw⟩
      unfold ex_l0
      rw [List.getElem?_append_right (by rw [List.length_map]; omega), List.length_map, List.getElem?_replicate, if_pos (by omega)]
    · cases ha
theorem ab_pfk {ts : List ab_T} {av : ex_V} {maxL : Nat} {al : ab_L} {fc : ab_F} {lv : ex_L} {cs : ex_C} {q : ab_Y × Int × Int} (h2 : ∀ (i : Nat) t, ts[i]? = some t → ∃ v, av[i]? = some v ∧ ab_ct t v) (h : ab_pf ts al fc q = true) (g : ab_cl (ab_lo (ex_l0 av maxL)) al lv) (hf : ab_cf lv cs fc) : ∃ x, ab_kv (av.map some) [] q.1 = some x ∧ q.2.1 ≤ x ∧ x ≤ q.2.2 := by
  have key : ∀ (i : Nat) b a, ts[i]? = some (.inr b) → al[i]? = some (some (.inr (.inl a))) → a.2.2.2 = some (i, 0) → ∃ z, ab_li (av.map some) i = some z ∧ ab_li lv i = some z ∧ a.1 ≤ z ∧ z ≤ a.2.1 := by
    intro i b a e1 e2 e3
    obtain ⟨v, hv, x, rfl, -⟩ := h2 _ _ e1
    obtain ⟨w, hw, y, rfl, y1, y2⟩ := g.2 _ _ e2
    have e4 := y2 _ e3
    have e5 := ab_avli hv
    have e6 : ab_lo (ex_l0 av maxL) i = x.toInt := by
      show (ab_li (ex_l0 av maxL) i).getD 0 = _
      rw [ab_l0li e5]
      rfl
    dsimp only at e4
    rw [e6] at e4
    refine ⟨x.toInt, e5, ?_, by omega, by omega⟩
    unfold ab_li
    rw [hw]
    show some y.toInt = some x.toInt
    rw [e4]
    simp
  unfold ab_pf at h
  split at h
  · rename_i i j e
    split at h
    · rename_i b lo hi og d e1 e2
      obtain ⟨h3, h⟩ := ab_a h
      obtain ⟨h4, h⟩ := ab_a h
      obtain ⟨h5, h6⟩ := ab_a h
      have h7 := of_decide_eq_true h6
      obtain ⟨d1, d2⟩ := d
      dsimp only at h3 h4
      subst h3 h4
      obtain ⟨z, z1, -, z2, z3⟩ := key _ _ _ e1 e2 rfl
      dsimp only at z2 z3
      refine ⟨z, ?_, by omega, by omega⟩
      rw [e]
      exact z1
    · cases h
  · rename_i i c e
    split at h
    · rename_i b lo hi og d e1 e2
      obtain ⟨h3, h⟩ := ab_a h
      obtain ⟨h4, h⟩ := ab_a h
      obtain ⟨f, hm, h5⟩ := List.any_eq_true.mp h
      obtain ⟨h6, h7⟩ := ab_b h5
      obtain ⟨h8, h9⟩ := ab_a h7
      have h10 := of_decide_eq_true h9
      have ef : f.1 = (3, i, c) := by simpa using h6
      obtain ⟨d1, d2⟩ := d
      dsimp only at h3 h4
      subst h3 h4
      obtain ⟨z, z1, z2, -, -⟩ := key _ _ _ e1 e2 rfl
      obtain ⟨x, hx, x1, x2⟩ := hf f hm
      rw [ef] at hx
      have hx' : (ab_li lv d1).map (fun x => x.tmod (c : Int)) = some x := hx
      rw [z2] at hx'
      refine ⟨x, ?_, by omega, by omega⟩
      rw [e]
      show (ab_li (av.map some) d1).map (fun x => x.tmod (c : Int)) = some x
      rw [z1]
      exact hx'
    · cases h
  · cases h
theorem ab_erk {s : Option (Int × Int)} {r : Option ab_I} {v : Option Value} (hv : match r with
    | none => v = none
    | some a => ∃ x : Int32, v = some (.int x) ∧ a.1 ≤ x.toInt ∧ x.toInt ≤ a.2.1) (h : ab_er s r = true) : ab_rt s v := by
  unfold ab_er at h
  split at h
  · exact hv
  · obtain ⟨h1, h2⟩ := ab_a h
    have h3 := of_decide_eq_true h2
    obtain ⟨x, rfl, x1, x2⟩ := hv
    exact ⟨x, rfl, by omega, by omega⟩
  · cases h
/-- what holds at a cut -/
def ab_P (hd : List ab_H) (W : ab_W) (cs0 : ex_C) (q : ab_Q) : Nat → ex_L → ex_V → ex_C → Prop := fun n lv st cs => st = [] ∧ ab_cl (fun _ => 0) (ab_nd ab_fn q.2.1) lv ∧ ab_hk hd cs ∧ ab_fr W cs0 cs ∧ ab_rank q lv = (n : Int)
def ab_In (hd : List ab_H) (W : ab_W) (cs0 : ex_C) (qs : List ab_Q) (pc : Nat) : Option (Nat → ex_L → ex_V → ex_C → Prop) := (qs.find? (fun q => q.1 == pc)).map (ab_P hd W cs0)
theorem ab_rf0 {W : ab_W} {cs : ex_C} : ab_fr W cs cs := fun _ _ _ => rfl
set_option maxHeartbeats 4000000 in
theorem ab_slw {hd : List ab_H} {xs : List (Nat × Int × Int)} {cx : ex_K} {cm : Nat → Option (Nat × Option Nat × List ab_C)} {code : List (Nat × Instr × Nat)} {cc : ByteArray} {ret : Option FieldType} {maxL fuel : Nat} {l : List (ab_C × List ab_Q)} (hcode : ∀ q ∈ code, decode cc q.1 = .ok q.2) (hcm : ∀ ix q, cm ix = some q → cx.2.2.2.2.1 ix = some (q.1, q.2.1, ab_sp hd q.2.2)) (hxs : ab_xo xs ec_xt) (hck : l.all (ab_ck hd xs cx cm code ret maxL fuel) = true) {av : ex_V} {cs : ex_C} {Q : ex_Q} (h : ab_sp hd (l.map (fun c => c.1)) av cs Q) : ex_sl cx cc maxL ret av cs Q := by
  obtain ⟨c0, hc0, ⟨hp1, hp2, hp3⟩, hh, hQ⟩ := h
  obtain ⟨c, hc, rfl⟩ := List.mem_map.mp hc0
  obtain ⟨k1, k2⟩ := ab_a (List.all_eq_true.mp hck c hc)
  obtain ⟨k3, k4⟩ := ab_b k2
  have nn : ∀ {p : ab_Q} {lv : ex_L}, p ∈ c.2 → ab_cl (fun _ => 0) (ab_nd ab_fn p.2.1) lv → 0 ≤ ab_rank p lv := by
    intro p lv hp hl
    have h1 := (ab_b (List.all_eq_true.mp k4 p hp)).1
    split at h1
    · rename_i b e
      have h2 := ab_lbk (ab_cutb hl) e
      have h3 := of_decide_eq_true h1
      unfold ab_rank
      omega
    · cases h1
  have hEn : ∀ (en : Bool) (o : Nat → Int), (en = true → o = ab_lo (ex_l0 av maxL)) → ∀ r al fc lv cs' v, ab_E en c.1 r al fc = true → ab_cl o al lv → ab_cf lv cs' fc → ab_hk hd cs' → ab_fr c.1.2.2.1 cs cs' → (match r with
      | none => v = none
      | some a => ∃ x : Int32, v = some (.int x) ∧ a.1 ≤ x.toInt ∧ x.toInt ≤ a.2.1) → Q v cs' := by
    intro en o ho r al fc lv cs' v hE hl hf hk hfr hv
    obtain ⟨s, hs, h1⟩ := List.any_eq_true.mp hE
    obtain ⟨h2, h3⟩ := ab_b h1
    obtain ⟨h3, h6⟩ := ab_b h3
    refine hQ _ _ ⟨hk, hfr, s, hs, ab_erk hv h2, fun q hq => ?_, fun q hq => ab_pck (List.all_eq_true.mp h6 q hq) hf⟩
    obtain ⟨h4, h5⟩ := ab_b (List.all_eq_true.mp h3 q hq)
    have e := ho h4
    subst e
    exact ab_pfk hp2 h5 hl hf
  refine ⟨?_, by rw [hp1]; exact k1, fuel, ab_In hd c.1.2.2.1 cs c.2, ?_, ?_⟩
  · rw [List.all_eq_true]
    intro w hw
    obtain ⟨i, hi, e⟩ := List.getElem_of_mem hw
    obtain ⟨v, hv, hc⟩ := hp2 i (c.1.1[i]'(by omega)) (List.getElem?_eq_getElem _)
    rw [List.getElem?_eq_getElem hi, e] at hv
    cases hv
    unfold ab_ct at hc
    split at hc
    · subst hc; rfl
    · obtain ⟨x, rfl, -⟩ := hc; rfl
  · refine ab_wp_sound (o := ab_lo (ex_l0 av maxL)) (cs0 := cs) hcode hcm hxs (hEn true _ (fun _ => rfl)) (fun pc => ?_) _ _ _ _ _ _ _ _ k3 ⟨ab_al0k hp1 hp2, rfl, fun q hq => ?_, hh, ab_rf0⟩
    · unfold ab_J ab_In
      cases hf : c.2.find? (fun q => q.1 == pc) with
      | none => exact ⟨fun _ => rfl, fun ch h => (by cases h)⟩
      | some q =>
        refine ⟨fun h => (by cases h), fun ch h => ?_⟩
        cases h
        refine ⟨_, rfl, fun al as fc lv st cs' h g => ?_⟩
        obtain ⟨h1, h2⟩ := ab_b h
        obtain ⟨h3, h4⟩ := ab_b h2
        have hn : as = [] := by simpa using h1
        subst hn
        have hl := ab_cutk (o' := fun _ => 0) h3 g.1
        exact ⟨(ab_rank q lv).toNat, g.2.1, hl, g.2.2.2.1, g.2.2.2.2, (Int.toNat_of_nonneg (nn (List.mem_of_find?_eq_some hf) hl)).symm⟩
    · obtain ⟨x, hx, hb⟩ := hp3 q hq
      exact ⟨x, ab_l0kv hx, hb⟩
  · intro pc J n lv st cs1 hJ hP
    unfold ab_In at hJ
    cases hf : c.2.find? (fun q => q.1 == pc) with
    | none => rw [hf] at hJ; cases hJ
    | some p =>
      rw [hf] at hJ
      cases hJ
      have hpm := List.mem_of_find?_eq_some hf
      have hpp : p.1 = pc := by simpa using List.find?_some hf
      obtain ⟨rfl, hl, hk1, hfr1, hr⟩ := hP
      have k5 := (ab_b (List.all_eq_true.mp k4 p hpm)).2
      rw [hpp] at k5
      refine ab_wp_sound (o := ab_lo lv) (cs0 := cs) hcode hcm hxs (hEn false _ (fun h => by cases h)) (fun pc' => ?_) _ _ _ _ _ _ _ _ k5 ⟨ab_inik hl, rfl, fun q hq => (by cases hq), hk1, hfr1⟩
      unfold ab_J ab_In
      cases hf' : c.2.find? (fun q => q.1 == pc') with
      | none => exact ⟨fun _ => rfl, fun ch h => (by cases h)⟩
      | some q =>
        refine ⟨fun h => (by cases h), fun ch h => ?_⟩
        cases h
        refine ⟨_, rfl, fun al as fc lv' st' cs' h g => ?_⟩
        obtain ⟨h1, h2⟩ := ab_b h
        obtain ⟨h3, h4⟩ := ab_b h2
        have hn : as = [] := by simpa using h1
        subst hn
        have hl' := ab_cutk (o' := fun _ => 0) h3 g.1
        have hlt := ab_rkk h4 g.1 hl
        have h0 := nn (List.mem_of_find?_eq_some hf') hl'
        refine ⟨(ab_rank q lv').toNat, by omega, g.2.1, hl', g.2.2.2.1, g.2.2.2.2, (Int.toNat_of_nonneg h0).symm⟩
/-- the contract out of the walk over bounds -/
theorem ab_met {l : Launch} {y : MethodName} {hd : List ab_H} {xs : List (Nat × Int × Int)} {cx : ex_K} {cm : Nat → Option (Nat × Option Nat × List ab_C)} {code : List (Nat × Instr × Nat)} {cc : ByteArray} {ret : Option FieldType} {maxL fuel fr lo : Nat} {cl : List (ab_C × List ab_Q)} (hy : plainName y.cls = true) (hown : cx.1 = y.cls) (hok : ex_ok l fr lo cx) (hcode : ∀ q ∈ code, decode cc q.1 = .ok q.2) (hcm : ∀ ix q, cm ix = some q → cx.2.2.2.2.1 ix = some (q.1, q.2.1, ab_sp hd q.2.2)) (hxs : ab_xo xs ec_xt) (hck : cl.all (ab_ck hd xs cx cm code ret maxL fuel) = true) : ex_Met l y cc maxL ret fr lo (ab_sp hd (cl.map (fun c => c.1))) := fun D ad ca n sz av cs Q h => ex_lmet hy hown hok D ad ca n sz av cs Q (ab_slw hcode hcm hxs hck h)

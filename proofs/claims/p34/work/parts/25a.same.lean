/-! THE COMPARISON: the cases of two contracts, held side by side -/
abbrev am_P : Type := List ((Nat × Nat) × (Nat × Nat))
abbrev am_V : Type := Option Nat × Int
abbrev am_N : Type := List (ab_Y × Int × Int) × List am_V × List (List am_V)
def am_un (i n : Nat) : List (List am_V) := (List.range n).map (fun j => [(some (i + j), 0)])
def am_no (q : Nat × Nat) : Nat := 1000 * (q.1 + 1) + q.2
def am_t1 (prs : am_P) (gp : List (Nat × Nat)) (f : Nat → Option Nat) (j : Nat) : Option Nat := if j < 1000 then (if j = 0 then none else some j) else if j < 900000000 then (prs.find? (fun p => am_no p.2 == j)).map (fun p => am_no p.1) else if j < 1000000000 then (gp.find? (fun p => 900000000 + p.2 == j)).map (fun p => 900000000 + p.1) else match ab_dt[j - 1000000000]? with
    | some e => if e.2.1 < j ∧ e.2.2 < j then (match f e.2.1 with
      | some a => if e.1 = 4 ∨ e.1 = 8 ∨ e.1 = 9 then ab_di e.1 a e.2.2 else (match f e.2.2 with
        | some b => ab_di e.1 a b
        | none => none)
      | none => none) else none
    | none => none
def am_tr (prs : am_P) (gp : List (Nat × Nat)) : Nat → Nat → Option Nat
  | 0 => fun _ => none
  | n + 1 => am_t1 prs gp (am_tr prs gp n)
theorem am_dg1 {t : Nat} {x y y' : Int} {c : Nat} (h : t = 4 ∨ t = 8 ∨ t = 9) : ab_dg t x y c = ab_dg t x y' c := by
  rcases h with rfl | rfl | rfl <;> rfl
theorem am_dg2 {t : Nat} {x y : Int} {c c' : Nat} (h : ¬ (t = 4 ∨ t = 8 ∨ t = 9)) : ab_dg t x y c = ab_dg t x y c' := by
  unfold ab_dg
  split <;> first | rfl | (exfalso; omega)
theorem am_trk {prs : am_P} {gp : List (Nat × Nat)} {o o' : Nat → Int} (ho : ab_dlw o) (hn : ∀ n t a b, ab_dt[n]? = some (t, a, b) → a < 1000000000 + n → b < 1000000000 + n → o' (1000000000 + n) = ab_dg t (o' a) (o' b) b) (hv : ∀ i, 0 < i → i < 1000 → o i = o' i) (hp : ∀ p ∈ prs, o (am_no p.1) = o' (am_no p.2)) (hg : ∀ p ∈ gp, o (900000000 + p.1) = o' (900000000 + p.2)) : ∀ n j i, am_tr prs gp n j = some i → o i = o' j := by
  intro n
  induction n with
  | zero =>
    intro j i h
    have h' : (none : Option Nat) = some i := h
    cases h'
  | succ n ih =>
    intro j i h
    have h : am_t1 prs gp (am_tr prs gp n) j = some i := h
    unfold am_t1 at h
    split at h
    · rename_i hj
      split at h
      · cases h
      · cases h
        exact hv _ (by omega) hj
    · rename_i hj
      split at h
      · cases hf : prs.find? (fun p => am_no p.2 == j) with
        | none => rw [hf] at h; cases h
        | some p =>
          rw [hf] at h
          cases h
          have h1 := List.find?_some hf
          have h2 : am_no p.2 = j := by simpa using h1
          rw [← h2]
          exact hp p (List.mem_of_find?_eq_some hf)
      · rename_i hj0
        split at h
        · cases hf : gp.find? (fun p => 900000000 + p.2 == j) with
          | none => rw [hf] at h; cases h
          | some p =>
            rw [hf] at h
            cases h
            have h1 := List.find?_some hf
            have h2 : 900000000 + p.2 = j := by simpa using h1
            rw [← h2]
            exact hg p (List.mem_of_find?_eq_some hf)
        rename_i hj2
        split at h
        · rename_i e he
          split at h
          · rename_i hc
            have hd := hn (j - 1000000000) e.1 e.2.1 e.2.2 he (by omega) (by omega)
            rw [show 1000000000 + (j - 1000000000) = j by omega] at hd
            split at h
            · rename_i a ha
              have h1 := ih _ _ ha
              split at h
              · rename_i ht
                rw [hd, ho _ _ _ _ h, h1]
                exact am_dg1 ht
              · rename_i ht
                split at h
                · rename_i b hb
                  have h2 := ih _ _ hb
                  rw [hd, ho _ _ _ _ h, h1, h2]
                  exact am_dg2 ht
                · cases h
            · cases h
          · cases h
        · cases h
def am_ky (tr : Nat → Option Nat) (y : ab_Y) : Option ab_Y := if y.1 = 0 then (if y.2.1 < 1000 then (tr y.2.1).map (fun i => (8, i, 0)) else none) else if y.1 = 8 then (tr y.2.1).map (fun i => (8, i, 0)) else if y.1 = 9 then (match tr y.2.1, tr y.2.2 with
    | some i, some j => some (9, i, j)
    | _, _ => none) else if (y.1 = 3 ∨ y.1 = 6 ∨ y.1 = 7) ∧ y.2.1 ≠ 0 then some y else none
theorem am_kyk {tr : Nat → Option Nat} {o o' : Nat → Int} {lv lv' : ex_L} (hl : ∀ i, 0 < i → ab_li lv i = ab_li lv' i) (ht : ∀ j i, tr j = some i → o i = o' j) (ho : ∀ i z, i < 1000 → ab_li lv' i = some z → o' i = z) {y q : ab_Y} {z : Int} (h : am_ky tr y = some q) (hz : ab_kv o' lv' [] y = some z) : ab_kv o lv [] q = some z := by
  obtain ⟨t, a, b⟩ := y
  unfold am_ky at h
  dsimp only at h
  split at h
  · rename_i e
    subst e
    split at h
    · rename_i ha
      cases hk : tr a with
      | none => rw [hk] at h; cases h
      | some i =>
        rw [hk] at h
        cases h
        have h1 := ho a z ha hz
        show some (o i) = some z
        rw [ht _ _ hk, h1]
    · cases h
  · split at h
    · rename_i e
      subst e
      cases hk : tr a with
      | none => rw [hk] at h; cases h
      | some i =>
        rw [hk] at h
        cases h
        have h1 : some (o' a) = some z := hz
        show some (o i) = some z
        rw [ht _ _ hk, h1]
    · split at h
      · rename_i e
        subst e
        split at h
        · rename_i i j h1 h2
          cases h
          have h3 : some (o' a - o' b) = some z := hz
          show some (o i - o j) = some z
          rw [ht _ _ h1, ht _ _ h2, h3]
        · cases h
      · split at h
        · rename_i hc
          cases h
          obtain ⟨h1, h2⟩ := hc
          have h3 := hl a (by omega)
          rcases h1 with rfl | rfl | rfl
          · show (ab_li lv a).map _ = some z
            rw [h3]
            exact hz
          · show (ab_li lv a).map _ = some z
            rw [h3]
            exact hz
          · show (ab_li lv a).map _ = some z
            rw [h3]
            exact hz
        · cases h
def am_fs (tr : Nat → Option Nat) (fc : ab_F) : List (ab_Y × Int × Int) := fc.filterMap (fun f => (am_ky tr f.1).map (fun q => (q, f.2.1, f.2.2.1)))
def am_ft (o : Nat → Int) (lv : ex_L) (l : List (ab_Y × Int × Int)) : Prop := ∀ p ∈ l, ∃ z, ab_kv o lv [] p.1 = some z ∧ p.2.1 ≤ z ∧ z ≤ p.2.2
theorem am_fsk {tr : Nat → Option Nat} {o o' : Nat → Int} {lv lv' : ex_L} (hl : ∀ i, 0 < i → ab_li lv i = ab_li lv' i) (ht : ∀ j i, tr j = some i → o i = o' j) (ho : ∀ i z, i < 1000 → ab_li lv' i = some z → o' i = z) {fc : ab_F} (h : ab_cf o' lv' [] fc) : am_ft o lv (am_fs tr fc) := by
  intro p hp
  obtain ⟨f, hf, he⟩ := List.mem_filterMap.mp hp
  cases hk : am_ky tr f.1 with
  | none => rw [hk] at he; cases he
  | some q =>
    rw [hk] at he
    cases he
    obtain ⟨z, hz, h1, h2, -⟩ := h f hf
    exact ⟨z, am_kyk hl ht ho hk hz, h1, h2⟩
def am_cd (tr : Nat → Option Nat) (q : Int × Int × Option (Nat × Int)) : List am_V := (if q.1 = q.2.1 then [(none, q.1)] else []) ++ (match q.2.2 with
  | some d => (match tr d.1 with
    | some i => [(some i, d.2)]
    | none => [])
  | none => [])
def am_vs (o : Nat → Int) (v : am_V) (z : Int) : Prop := match v.1 with
  | some i => z = o i + v.2
  | none => z = v.2
theorem am_cdk {tr : Nat → Option Nat} {o o' : Nat → Int} (ht : ∀ j i, tr j = some i → o i = o' j) {q : Int × Int × Option (Nat × Int)} {z : Int} (h1 : q.1 ≤ z) (h2 : z ≤ q.2.1) (h3 : ∀ d, q.2.2 = some d → z = o' d.1 + d.2) : ∀ v ∈ am_cd tr q, am_vs o v z := by
  intro v hv
  unfold am_cd at hv
  rcases List.mem_append.mp hv with hv | hv
  · split at hv
    · rename_i e
      rcases List.mem_singleton.mp hv with rfl
      show z = q.1
      omega
    · cases hv
  · split at hv
    · rename_i d hd
      split at hv
      · rename_i i hi
        rcases List.mem_singleton.mp hv with rfl
        show z = o i + d.2
        rw [ht _ _ hi]
        exact h3 d hd
      · cases hv
    · cases hv
def am_en (tr : Nat → Option Nat) (W : ab_W) (c : Nat × Nat) (fin : ab_F) : List am_V := if ab_cov W c.1 c.2 = true then (match fin.find? (fun f => decide (f.1 = (1, c.1, c.2))) with
    | some f => am_cd tr f.2
    | none => []) else (match tr (am_no c) with
    | some i => [(some i, 0)]
    | none => [])
theorem am_enk {tr : Nat → Option Nat} {o o' : Nat → Int} (ht : ∀ j i, tr j = some i → o i = o' j) {W : ab_W} {c : Nat × Nat} {fin : ab_F} {cs cs' : ex_C} {z : Int} (hf : ab_fr W cs cs') (hc : ab_cf o' [] cs' fin) (hz : ab_ri cs c.1 c.2 = some z) (h0 : o' (am_no c) = z) (hne : am_en tr W c fin ≠ []) : ∃ e, ab_ri cs' c.1 c.2 = some e ∧ ∀ v ∈ am_en tr W c fin, am_vs o v e := by
  unfold am_en at hne ⊢
  split
  · rename_i hw
    rw [if_pos hw] at hne
    split
    · rename_i f ef
      have hm := List.mem_of_find?_eq_some ef
      have hk : f.1 = (1, c.1, c.2) := by simpa using List.find?_some ef
      obtain ⟨x, hx, h1, h2, h3⟩ := hc f hm
      rw [hk] at hx
      exact ⟨x, hx, am_cdk ht h1 h2 h3⟩
    · rename_i ef
      rw [ef] at hne
      exact absurd rfl hne
  · rename_i hw
    refine ⟨z, ?_, ?_⟩
    · rw [← hz]
      unfold ab_ri
      rw [hf c.1 c.2 (by simpa using hw)]
    · intro v hv
      split at hv
      · rename_i i hi
        rcases List.mem_singleton.mp hv with rfl
        show z = o i + 0
        rw [ht _ _ hi, h0]
        omega
      · cases hv
theorem am_dw {α : Type} {p : α → Bool} {f : α} {fs : List α} : ∀ {l : List α}, l.dropWhile p = f :: fs → p f = false ∧ f ∈ l ∧ ∀ x ∈ fs, x ∈ l
  | [], h => by cases h
  | a :: r, h => by
    cases hp : p a with
    | true =>
      rw [List.dropWhile_cons_of_pos hp] at h
      obtain ⟨h1, h2, h3⟩ := am_dw h
      exact ⟨h1, List.mem_cons_of_mem _ h2, fun x hx => List.mem_cons_of_mem _ (h3 x hx)⟩
    | false =>
      rw [List.dropWhile_cons_of_neg (by rw [hp]; decide)] at h
      cases h
      exact ⟨hp, List.mem_cons_self, fun x hx => List.mem_cons_of_mem _ hx⟩
/-- what the cells are at the end; both lists in the same order -/
def am_ens (tr : Nat → Option Nat) : List ((Nat × Nat) × Bool) → ab_F → List (List am_V)
  | [], _ => []
  | c :: r, fin => if c.2 = true then (match fin.dropWhile (fun f => !decide (f.1 = (1, c.1.1, c.1.2))) with
      | f :: fs => am_cd tr f.2 :: am_ens tr r fs
      | [] => [] :: am_ens tr r fin) else (match tr (am_no c.1) with
      | some i => [(some i, 0)]
      | none => []) :: am_ens tr r fin
theorem am_ensk {tr : Nat → Option Nat} {o o' : Nat → Int} {W : ab_W} {cs cs' : ex_C} (ht : ∀ j i, tr j = some i → o i = o' j) (hf : ab_fr W cs cs') : ∀ {cells : List ((Nat × Nat) × Bool)} {fin : ab_F}, (∀ c ∈ cells, c.2 = ab_cov W c.1.1 c.1.2 ∧ ∃ z, ab_ri cs c.1.1 c.1.2 = some z ∧ o' (am_no c.1) = z) → ab_cf o' [] cs' fin → ∀ (k : Nat) c, cells[k]? = some c → ∃ l, (am_ens tr cells fin)[k]? = some l ∧ (l ≠ [] → ∃ e, ab_ri cs' c.1.1 c.1.2 = some e ∧ ∀ v ∈ l, am_vs o v e)
  | [], _, _, _, k, c, h => by simp at h
  | c0 :: r, fin, hc, hfin, k, c, h => by
    obtain ⟨w0, z, z1, z2⟩ := hc c0 List.mem_cons_self
    have hr : ∀ c ∈ r, c.2 = ab_cov W c.1.1 c.1.2 ∧ ∃ z, ab_ri cs c.1.1 c.1.2 = some z ∧ o' (am_no c.1) = z := fun c hm => hc c (List.mem_cons_of_mem _ hm)
    unfold am_ens
    split
    · rename_i hfl
      split
      · rename_i f fs e
        obtain ⟨h1, h2, h3⟩ := am_dw e
        cases k with
        | zero =>
          simp at h
          subst h
          have hk : f.1 = (1, c0.1.1, c0.1.2) := by simpa using h1
          obtain ⟨x, hx, y1, y2, y3⟩ := hfin f h2
          rw [hk] at hx
          exact ⟨_, rfl, fun _ => ⟨x, hx, am_cdk ht y1 y2 y3⟩⟩
        | succ k =>
          simp at h
          exact am_ensk ht hf hr (fun q hq => hfin q (h3 q hq)) k c h
      · cases k with
        | zero => exact ⟨[], rfl, fun hne => absurd rfl hne⟩
        | succ k =>
          simp at h
          exact am_ensk ht hf hr hfin k c h
    · rename_i hfl
      cases k with
      | zero =>
        simp at h
        subst h
        refine ⟨_, rfl, fun _ => ⟨z, ?_, ?_⟩⟩
        · rw [← z1]
          unfold ab_ri
          rw [hf c0.1.1 c0.1.2 (by rw [← w0]; simpa using hfl)]
        · intro v hv
          split at hv
          · rename_i i hi
            rcases List.mem_singleton.mp hv with rfl
            show z = o i + 0
            rw [ht _ _ hi, z2]
            omega
          · cases hv
      | succ k =>
        simp at h
        exact am_ensk ht hf hr hfin k c h
def am_pin (fs : List (ab_Y × Int × Int)) (i : Nat) (w : Int) : Bool := fs.any (fun p => decide (p.1 = (8, i, 0) ∧ w ≤ p.2.1 ∧ p.2.2 ≤ w))
theorem am_pink {o : Nat → Int} {lv : ex_L} {fs : List (ab_Y × Int × Int)} {i : Nat} {w : Int} (hf : am_ft o lv fs) (h : am_pin fs i w = true) : o i = w := by
  obtain ⟨p, hp, hd⟩ := List.any_eq_true.mp h
  obtain ⟨h1, h2, h3⟩ := of_decide_eq_true hd
  obtain ⟨z, hz, z1, z2⟩ := hf p hp
  rw [h1] at hz
  have : some (o i) = some z := hz
  cases this
  omega
def am_s1 (fs : List (ab_Y × Int × Int)) (v w : am_V) : Bool := match v.1, w.1 with
  | some i, some j => (decide (i = j) && decide (v.2 = w.2))
  | none, none => decide (v.2 = w.2)
  | some i, none => am_pin fs i (w.2 - v.2)
  | none, some j => am_pin fs j (v.2 - w.2)
theorem am_s1k {o : Nat → Int} {lv : ex_L} {fs : List (ab_Y × Int × Int)} {v w : am_V} {e e' : Int} (hf : am_ft o lv fs) (h : am_s1 fs v w = true) (hv : am_vs o v e) (hw : am_vs o w e') : e = e' := by
  obtain ⟨v1, v2⟩ := v
  obtain ⟨w1, w2⟩ := w
  cases v1 with
  | none =>
    have a1 : e = v2 := hv
    cases w1 with
    | none =>
      have a2 : e' = w2 := hw
      have a3 : v2 = w2 := of_decide_eq_true h
      omega
    | some j =>
      have a2 : e' = o j + w2 := hw
      have a3 : o j = v2 - w2 := am_pink hf h
      omega
  | some i =>
    have a1 : e = o i + v2 := hv
    cases w1 with
    | none =>
      have a2 : e' = w2 := hw
      have a3 : o i = w2 - v2 := am_pink hf h
      omega
    | some j =>
      have a2 : e' = o j + w2 := hw
      obtain ⟨b1, b2⟩ := ab_b h
      have c1 : i = j := of_decide_eq_true b1
      have c2 : v2 = w2 := of_decide_eq_true b2
      rw [a1, a2, c1, c2]
def am_sv (fs : List (ab_Y × Int × Int)) (l m : List am_V) : Bool := l.any (fun v => m.any (fun w => am_s1 fs v w))
theorem am_svk {o : Nat → Int} {lv : ex_L} {fs : List (ab_Y × Int × Int)} {l m : List am_V} {e e' : Int} (hf : am_ft o lv fs) (h : am_sv fs l m = true) (hv : ∀ v ∈ l, am_vs o v e) (hw : ∀ w ∈ m, am_vs o w e') : e = e' := by
  obtain ⟨v, h1, h2⟩ := List.any_eq_true.mp h
  obtain ⟨w, h3, h4⟩ := List.any_eq_true.mp h2
  exact am_s1k hf h4 (hv v h1) (hw w h3)
theorem am_svn {fs : List (ab_Y × Int × Int)} {l m : List am_V} (h : am_sv fs l m = true) : l ≠ [] ∧ m ≠ [] := by
  obtain ⟨v, h1, h2⟩ := List.any_eq_true.mp h
  obtain ⟨w, h3, -⟩ := List.any_eq_true.mp h2
  exact ⟨List.ne_nil_of_mem h1, List.ne_nil_of_mem h3⟩
def am_dis (a b : List (ab_Y × Int × Int)) : Bool := a.any (fun p => b.any (fun q => decide (p.1 = q.1) && decide (p.2.2 < q.2.1 ∨ q.2.2 < p.2.1)))
theorem am_disk {o : Nat → Int} {lv : ex_L} {a b : List (ab_Y × Int × Int)} (ha : am_ft o lv a) (hb : am_ft o lv b) (h : am_dis a b = true) : False := by
  obtain ⟨p, h1, h2⟩ := List.any_eq_true.mp h
  obtain ⟨q, h3, h4⟩ := List.any_eq_true.mp h2
  obtain ⟨h5, h6⟩ := ab_b h4
  have h7 : p.1 = q.1 := of_decide_eq_true h5
  have h8 := of_decide_eq_true h6
  obtain ⟨x, x1, x2, x3⟩ := ha p h1
  obtain ⟨y, y1, y2, y3⟩ := hb q h3
  rw [h7, y1] at x1
  cases x1
  omega
def am_d9 (f : List (ab_Y × Int × Int)) : Bool := f.any (fun p => decide (p.1.1 = 9) && f.any (fun q => decide (q.1 = (8, p.1.2.1, 0)) && f.any (fun r => decide (r.1 = (8, p.1.2.2, 0)) && decide (p.2.2 < q.2.1 - r.2.2 ∨ q.2.2 - r.2.1 < p.2.1))))
theorem am_d9k {o : Nat → Int} {lv : ex_L} {f : List (ab_Y × Int × Int)} (hf : am_ft o lv f) (h : am_d9 f = true) : False := by
  obtain ⟨⟨⟨t, i, j⟩, lo, hi⟩, h1, h2⟩ := List.any_eq_true.mp h
  obtain ⟨h3, h4⟩ := ab_b h2
  obtain ⟨⟨y, qlo, qhi⟩, h5, h6⟩ := List.any_eq_true.mp h4
  obtain ⟨h7, h8⟩ := ab_b h6
  obtain ⟨⟨y', rlo, rhi⟩, h9, h10⟩ := List.any_eq_true.mp h8
  obtain ⟨h11, h12⟩ := ab_b h10
  have e1 : t = 9 := of_decide_eq_true h3
  have e2 : y = (8, i, 0) := of_decide_eq_true h7
  have e3 : y' = (8, j, 0) := of_decide_eq_true h11
  subst e1 e2 e3
  have e4 := of_decide_eq_true h12
  obtain ⟨a, a1, a2, a3⟩ := hf _ h1
  obtain ⟨b, b1, b2, b3⟩ := hf _ h5
  obtain ⟨c, c1, c2, c3⟩ := hf _ h9
  have f1 : some (o i - o j) = some a := a1
  have f2 : some (o i) = some b := b1
  have f3 : some (o j) = some c := c1
  cases f1
  cases f2
  cases f3
  dsimp only at *
  omega
def am_ok (cmp : Bool) (n m : am_N) : Bool := (am_dis n.1 m.1 || am_d9 (n.1 ++ m.1)) || ((!cmp || am_sv (n.1 ++ m.1) n.2.1 m.2.1) && (n.2.2.zip m.2.2).all (fun q => am_sv (n.1 ++ m.1) q.1 q.2))
def am_nm (tr : Nat → Option Nat) (cells : List ((Nat × Nat) × Bool)) (s : ab_Cs) : am_N := (am_fs tr s.2.1, (match s.1 with
  | some q => am_cd tr q
  | none => []), am_ens tr cells s.2.2)
def am_wf (prs : am_P) (c d : ab_C) : Bool := prs.all (fun p => decide (p.1.2 < 1000 ∧ p.2.2 < 1000 ∧ am_no p.1 < 900000000 ∧ am_no p.2 < 900000000) && (!ab_cov c.2.2.1 p.2.1 p.2.2 && !ab_cov d.2.2.1 p.1.1 p.1.2))
def am_R (prs : am_P) (cs : ex_C) : Prop := ∀ p ∈ prs, ∃ z, ab_ri cs p.1.1 p.1.2 = some z ∧ ab_ri cs p.2.1 p.2.2 = some z
theorem am_zip {α β γ : Type} {f : α → β} {g : α → γ} {h : β × γ → Bool} : ∀ {l : List α}, ((l.map f).zip (l.map g)).all h = true → ∀ p ∈ l, h (f p, g p) = true
  | [], _, p, hp => by cases hp
  | a :: r, hh, p, hp => by
    simp only [List.map_cons, List.zip_cons_cons, List.all_cons] at hh
    obtain ⟨h1, h2⟩ := ab_b hh
    rcases List.mem_cons.mp hp with rfl | hp
    · exact h1
    · exact am_zip h2 p hp
theorem am_frr {W : ab_W} {cs cs' : ex_C} {k j : Nat} (h : ab_fr W cs cs') (hc : ab_cov W k j = false) : ab_ri cs' k j = ab_ri cs k j := by
  unfold ab_ri
  rw [h k j hc]
theorem am_onc {lv : ex_L} {cs : ex_C} {k j : Nat} {z : Int} (h1 : j < 1000) (h2 : am_no (k, j) < 900000000) (h : ab_ri cs k j = some z) : ab_oo lv cs (am_no (k, j)) = z := by
  have e : am_no (k, j) = 1000 * (k + 1) + j := rfl
  rw [ab_oob' (by omega)]
  unfold ab_ob
  rw [e, if_neg (by omega), if_pos (by omega), show (1000 * (k + 1) + j - 1000) / 1000 = k by omega, show (1000 * (k + 1) + j - 1000) % 1000 = j by omega, h]
  rfl
theorem am_main {prs : am_P} {gp : List (Nat × Nat)} {cmp : Bool} {c d : ab_C} {c9 c10 : List ((Nat × Nat) × Bool)} {n9 n10 : List am_N} {v0 v1 : Value} {ps : ex_V} {x y : Int32} {cs cs1 cs2 : ex_C} (hw : am_wf prs c d = true) (f9 : prs.map (fun p => (p.1, ab_cov c.2.2.1 p.1.1 p.1.2)) = c9) (f10 : prs.map (fun p => (p.2, ab_cov d.2.2.1 p.2.1 p.2.2)) = c10) (e9 : c.2.2.2.map (am_nm some c9) = n9) (e10 : d.2.2.2.map (am_nm (am_tr prs gp 9) c10) = n10) (h : n9.all (fun n => n10.all (am_ok cmp n)) = true) (h1 : ab_post ab_hd c (v0 :: ps) cs (some (.int x)) cs1) (h2 : ab_post ab_hd d (v1 :: ps) cs1 (some (.int y)) cs2) (hR : am_R prs cs) (hg : (∀ p ∈ prs, ab_ri cs p.1.1 p.1.2 = ab_ri cs1 p.2.1 p.2.2) → ∀ p ∈ gp, ab_oo ((v0 :: ps).map some) cs (900000000 + p.1) = ab_oo ((v1 :: ps).map some) cs1 (900000000 + p.2)) : (cmp = true → x = y) ∧ am_R prs cs2 := by
  obtain ⟨-, f1, s, hs, r1, p1, q1⟩ := h1
  obtain ⟨-, f2, t, ht, r2, p2, q2⟩ := h2
  have hwf : ∀ p ∈ prs, (p.1.2 < 1000 ∧ p.2.2 < 1000 ∧ am_no p.1 < 900000000 ∧ am_no p.2 < 900000000) ∧ ab_cov c.2.2.1 p.2.1 p.2.2 = false ∧ ab_cov d.2.2.1 p.1.1 p.1.2 = false := by
    intro p hp
    obtain ⟨a1, a2⟩ := ab_b (List.all_eq_true.mp hw p hp)
    obtain ⟨a3, a4⟩ := ab_b a2
    exact ⟨of_decide_eq_true a1, by simpa using a3, by simpa using a4⟩
  have hli : ∀ i, 0 < i → ab_li ((v0 :: ps).map some) i = ab_li ((v1 :: ps).map some) i := by
    intro i hi
    match i, hi with
    | i + 1, _ => rfl
  have hoi : ∀ (lv : ex_L) (cs : ex_C) (i : Nat) (z : Int), i < 1000 → ab_li lv i = some z → ab_oo lv cs i = z := by
    intro lv cs i z hi hz
    rw [ab_oob' (by omega)]
    unfold ab_ob
    rw [if_pos hi, hz]
    rfl
  have hv : ∀ i, 0 < i → i < 1000 → ab_oo ((v0 :: ps).map some) cs i = ab_oo ((v1 :: ps).map some) cs1 i := by
    intro i h0 hi
    rw [ab_oob' (by omega), ab_oob' (by omega)]
    unfold ab_ob
    rw [if_pos hi, if_pos hi, hli i h0]
  have hpz : ∀ p ∈ prs, ∃ z, ab_ri cs p.1.1 p.1.2 = some z ∧ ab_ri cs1 p.2.1 p.2.2 = some z ∧ ab_oo ((v0 :: ps).map some) cs (am_no p.1) = z ∧ ab_oo ((v1 :: ps).map some) cs1 (am_no p.2) = z := by
    intro p hp
    obtain ⟨z, z1, z2⟩ := hR p hp
    obtain ⟨⟨b1, b2, b3, b4⟩, b5, b6⟩ := hwf p hp
    rw [← am_frr f1 b5] at z2
    exact ⟨z, z1, z2, am_onc b1 b3 z1, am_onc b2 b4 z2⟩
  have hp : ∀ p ∈ prs, ab_oo ((v0 :: ps).map some) cs (am_no p.1) = ab_oo ((v1 :: ps).map some) cs1 (am_no p.2) := by
    intro p hp
    obtain ⟨z, -, -, z3, z4⟩ := hpz p hp
    rw [z3, z4]
  have htr := am_trk (prs := prs) (gp := gp) (o := ab_oo ((v0 :: ps).map some) cs) (o' := ab_oo ((v1 :: ps).map some) cs1) ab_oolw (fun n t a b e ha hb => ab_oon e ha (Or.inr (Or.inr hb))) hv hp (hg (fun p hp => by obtain ⟨z, z1, z2, -, -⟩ := hpz p hp; rw [z1, z2])) 9
  have hid : ∀ j i, some j = some i → ab_oo ((v0 :: ps).map some) cs i = ab_oo ((v0 :: ps).map some) cs j := by
    intro j i e
    cases e
    rfl
  have g1 := am_fsk (tr := some) (fun _ _ => rfl) hid (hoi _ _) p1
  have g2 := am_fsk hli htr (hoi _ _) p2
  have hk := List.all_eq_true.mp (List.all_eq_true.mp h (am_nm some c9 s) (by rw [← e9]; exact List.mem_map_of_mem hs)) (am_nm (am_tr prs gp 9) c10 t) (by rw [← e10]; exact List.mem_map_of_mem ht)
  unfold am_ok at hk
  have g3 : am_ft (ab_oo ((v0 :: ps).map some) cs) ((v0 :: ps).map some) ((am_nm some c9 s).1 ++ (am_nm (am_tr prs gp 9) c10 t).1) := by
    intro p hp
    rcases List.mem_append.mp hp with hp | hp
    · exact g1 p hp
    · exact g2 p hp
  rcases (Bool.or_eq_true _ _).mp hk with hk | hk
  · rcases (Bool.or_eq_true _ _).mp hk with hk | hk
    · exact (am_disk g1 g2 hk).elim
    · exact (am_d9k g3 hk).elim
  obtain ⟨k1, k2⟩ := ab_b hk
  refine ⟨fun hcmp => ?_, fun p hpm => ?_⟩
  · rw [hcmp] at k1
    have k3 : am_sv ((am_nm some c9 s).1 ++ (am_nm (am_tr prs gp 9) c10 t).1) (am_nm some c9 s).2.1 (am_nm (am_tr prs gp 9) c10 t).2.1 = true := by simpa using k1
    refine Int32.toInt_inj.mp (am_svk g3 k3 ?_ ?_)
    · show ∀ v ∈ (match s.1 with | some q => am_cd some q | none => []), _
      unfold ab_rt at r1
      split at r1
      · cases r1
      · rename_i q eq
        obtain ⟨x', ex, b1, b2⟩ := r1
        cases ex
        rw [eq]
        exact am_cdk hid b1.1 b1.2 b2
    · show ∀ v ∈ (match t.1 with | some q => am_cd (am_tr prs gp 9) q | none => []), _
      unfold ab_rt at r2
      split at r2
      · cases r2
      · rename_i q eq
        obtain ⟨x', ex, b1, b2⟩ := r2
        cases ex
        rw [eq]
        exact am_cdk htr b1.1 b1.2 b2
  · obtain ⟨z, z1, z2, z3, z4⟩ := hpz p hpm
    obtain ⟨-, b5, b6⟩ := hwf p hpm
    obtain ⟨k, hk1, hk2⟩ := List.getElem_of_mem hpm
    have hkp : prs[k]? = some p := by rw [List.getElem?_eq_getElem hk1, hk2]
    have k9 : c9[k]? = some (p.1, ab_cov c.2.2.1 p.1.1 p.1.2) := by rw [← f9, List.getElem?_map, hkp]; rfl
    have k10 : c10[k]? = some (p.2, ab_cov d.2.2.1 p.2.1 p.2.2) := by rw [← f10, List.getElem?_map, hkp]; rfl
    obtain ⟨l9, j9, m9⟩ := am_ensk (tr := some) (o := ab_oo ((v0 :: ps).map some) cs) (o' := ab_oo ((v0 :: ps).map some) cs) hid f1 (cells := c9) (fin := s.2.2) (fun c' hc' => by
      rw [← f9] at hc'
      obtain ⟨p', hp', rfl⟩ := List.mem_map.mp hc'
      obtain ⟨z, z1, -, z3, -⟩ := hpz p' hp'
      exact ⟨rfl, z, z1, z3⟩) q1 k _ k9
    obtain ⟨l10, j10, m10⟩ := am_ensk (tr := am_tr prs gp 9) (o := ab_oo ((v0 :: ps).map some) cs) (o' := ab_oo ((v1 :: ps).map some) cs1) htr f2 (cells := c10) (fin := t.2.2) (fun c' hc' => by
      rw [← f10] at hc'
      obtain ⟨p', hp', rfl⟩ := List.mem_map.mp hc'
      obtain ⟨z, -, z2, -, z4⟩ := hpz p' hp'
      exact ⟨rfl, z, z2, z4⟩) q2 k _ k10
    have k5 : am_sv ((am_nm some c9 s).1 ++ (am_nm (am_tr prs gp 9) c10 t).1) l9 l10 = true := by
      refine List.all_eq_true.mp k2 (l9, l10) (List.mem_of_getElem? (i := k) ?_)
      rw [List.getElem?_zip_eq_some]
      exact ⟨j9, j10⟩
    obtain ⟨n1, n2⟩ := am_svn k5
    obtain ⟨e, e1, e2⟩ := m9 n1
    obtain ⟨e', e1', e2'⟩ := m10 n2
    have := am_svk g3 k5 e2 e2'
    subst this
    refine ⟨e, ?_, e1'⟩
    rw [am_frr f2 b6]
    exact e1
theorem am_keep {prs : am_P} {W1 W2 : ab_W} {cs cs1 cs2 : ex_C} (h1 : ab_fr W1 cs cs1) (h2 : ab_fr W2 cs1 cs2) (hW1 : prs.all (fun p => !ab_cov W1 p.1.1 p.1.2 && !ab_cov W1 p.2.1 p.2.2) = true) (hW2 : prs.all (fun p => !ab_cov W2 p.1.1 p.1.2 && !ab_cov W2 p.2.1 p.2.2) = true) (h : am_R prs cs) : am_R prs cs2 := by
  intro p hp
  obtain ⟨z, z1, z2⟩ := h p hp
  obtain ⟨a1, a2⟩ := ab_b (List.all_eq_true.mp hW1 p hp)
  obtain ⟨b1, b2⟩ := ab_b (List.all_eq_true.mp hW2 p hp)
  refine ⟨z, ?_, ?_⟩
  · rw [am_frr h2 (by simpa using b1), am_frr h1 (by simpa using a1)]
    exact z1
  · rw [am_frr h2 (by simpa using b2), am_frr h1 (by simpa using a2)]
    exact z2
def am_in (prs : am_P) (cs : ex_C) : Bool := prs.all (fun p => match ab_ri cs p.1.1 p.1.2, ab_ri cs p.2.1 p.2.2 with
  | some a, some b => decide (a = b)
  | _, _ => false)
theorem am_ink {prs : am_P} {cs : ex_C} (h : am_in prs cs = true) : am_R prs cs := by
  intro p hp
  have h1 := List.all_eq_true.mp h p hp
  split at h1
  · rename_i a b ha hb
    have : a = b := of_decide_eq_true h1
    subst this
    exact ⟨a, ha, hb⟩
  · cases h1
def am_nq (a b : am_N) : Bool := decide (a.1 = b.1) && (decide (a.2.1 = b.2.1) && decide (a.2.2 = b.2.2))
def am_lq : List am_N → List am_N → Bool
  | [], [] => true
  | a :: r, b :: s => am_nq a b && am_lq r s
  | _, _ => false
theorem am_lqk : ∀ {l m : List am_N}, am_lq l m = true → l = m
  | [], [], _ => rfl
  | a :: r, b :: s, h => by
    obtain ⟨h1, h2⟩ := ab_b h
    obtain ⟨h3, h4⟩ := ab_b h1
    obtain ⟨h5, h6⟩ := ab_b h4
    have e1 := of_decide_eq_true h3
    have e2 := of_decide_eq_true h5
    have e3 := of_decide_eq_true h6
    rw [am_lqk h2]
    have : a = b := Prod.ext e1 (Prod.ext e2 e3)
    rw [this]
  | [], _ :: _, h => by cases h
  | _ :: _, [], h => by cases h
def am_chk (prs : am_P) (gp : List (Nat × Nat)) (l m : List ab_C) (c9 c10 : List ((Nat × Nat) × Bool)) (n9 n10 : List am_N) : Bool := match l, m with
  | [c], [d] => am_wf prs c d && ((decide (prs.map (fun p => (p.1, ab_cov c.2.2.1 p.1.1 p.1.2)) = c9) && decide (prs.map (fun p => (p.2, ab_cov d.2.2.1 p.2.1 p.2.2)) = c10)) && (am_lq (c.2.2.2.map (am_nm some c9)) n9 && am_lq (d.2.2.2.map (am_nm (am_tr prs gp 9) c10)) n10))
  | _, _ => false
theorem am_chkk {prs : am_P} {gp : List (Nat × Nat)} {c d : ab_C} {c9 c10 : List ((Nat × Nat) × Bool)} {n9 n10 : List am_N} (h : am_chk prs gp [c] [d] c9 c10 n9 n10 = true) : am_wf prs c d = true ∧ prs.map (fun p => (p.1, ab_cov c.2.2.1 p.1.1 p.1.2)) = c9 ∧ prs.map (fun p => (p.2, ab_cov d.2.2.1 p.2.1 p.2.2)) = c10 ∧ c.2.2.2.map (am_nm some c9) = n9 ∧ d.2.2.2.map (am_nm (am_tr prs gp 9) c10) = n10 := by
  obtain ⟨h1, h2⟩ := ab_b h
  obtain ⟨h3, h4⟩ := ab_b h2
  obtain ⟨h5, h6⟩ := ab_b h3
  obtain ⟨h7, h8⟩ := ab_b h4
  exact ⟨h1, of_decide_eq_true h5, of_decide_eq_true h6, am_lqk h7, am_lqk h8⟩

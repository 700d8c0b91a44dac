section ABT
variable {hd : List ab_H} {xs : List (Nat × Int × Int × List Int)} {xt : ex_xt} {W : ab_W} {o : Nat → Int} {cs0 cs cs' : ex_C} {lv lv' : ex_L}
/-! the cells -/
theorem ab_hk.obj (h : ab_hk hd cs) {a ci : Nat} {ts : List ab_T} (e : hd[a]? = some (.inl (ci, ts))) : ∃ fs : List Value, cs[a]? = some (.inr (ci, fs)) ∧ fs.length = ts.length ∧ ∀ (j : Nat) t, ts[j]? = some t → ∃ v, fs[j]? = some v ∧ ab_ct t v := h.2 _ _ e
theorem ab_hk.arr (h : ab_hk hd cs) {a t n m : Nat} {lo hi : Int} (e : hd[a]? = some (.inr (t, n, [(m, lo, hi)]))) (hn : n ≤ m) : ∃ f, cs[a]? = some (.inl (t, n, .inl f)) ∧ ∀ j, j < n → lo ≤ (f j).toInt ∧ (f j).toInt ≤ hi := by
  obtain ⟨f, h1, h2⟩ := h.2 _ _ e
  refine ⟨f, h1, fun j hj => ?_⟩
  have := h2 j hj
  have es : ab_sg [(m, lo, hi)] j = (lo, hi) := by
    show (if j < m then (lo, hi) else _) = _
    rw [if_pos (by have : j < n := hj; omega)]
  dsimp only at this
  rw [es] at this
  exact this
theorem ab_hk.set (h : ab_hk hd cs) {a : Nat} {hh : ab_H} {c : va_E} (e : hd[a]? = some hh) (hc : ab_ch hh (some c)) : ab_hk hd (cs.set a c) := by
  refine ⟨by rw [List.length_set]; exact h.1, fun k h' hk => ?_⟩
  by_cases hka : a = k
  · subst hka
    rw [e] at hk
    cases hk
    rw [List.getElem?_set_self (by rw [h.1]; exact (List.getElem?_eq_some_iff.mp e).1)]
    exact hc
  · rw [List.getElem?_set_ne hka]
    exact h.2 k h' hk
theorem ab_rdn {a k j : Nat} {c : va_E} (h : a ≠ k) : ab_rd (cs.set a c) k j = ab_rd cs k j := by
  unfold ab_rd
  rw [List.getElem?_set_ne h]
theorem ab_rds {a j : Nat} {c e : va_E} (h : cs[a]? = some e) : ab_rd (cs.set a c) a j = (match c with
  | .inr (_, fs) => fs[j]?
  | .inl (_, _, .inl f) => some (.int (f j))
  | _ => none) := by
  unfold ab_rd
  rw [List.getElem?_set_self (List.getElem?_eq_some_iff.mp h).1]
  cases c with
  | inr q => rfl
  | inl q =>
    obtain ⟨t, n, f⟩ := q
    cases f <;> rfl
theorem ab_fro {a ci j : Nat} {fs : List Value} {v : Value} (h : cs[a]? = some (.inr (ci, fs))) : ab_fr [(a, some j)] cs (cs.set a (.inr (ci, fs.set j v))) := by
  intro k i hc
  by_cases hk : a = k
  · subst hk
    have hij : j ≠ i := by
      intro e
      subst e
      simp [ab_cov] at hc
    rw [ab_rds h]
    unfold ab_rd
    rw [h]
    exact List.getElem?_set_ne hij
  · exact ab_rdn hk
theorem ab_fra {a t n : Nat} {f g : Nat → Int32} {w : Option Nat} (h : cs[a]? = some (.inl (t, n, .inl f))) (hg : ∀ j, w ≠ none → w ≠ some j → g j = f j) : ab_fr [(a, w)] cs (cs.set a (.inl (t, n, .inl g))) := by
  intro k i hc
  by_cases hk : a = k
  · subst hk
    rw [ab_rds h]
    unfold ab_rd
    rw [h]
    show some (Value.int (g i)) = some (Value.int (f i))
    rw [hg i (fun e => by subst e; simp [ab_cov] at hc) (fun e => by subst e; simp [ab_cov] at hc)]
  · exact ab_rdn hk
theorem ab_idxk {a : ab_I} {i : Int32} {n : Nat} (h : ab_idx a n = true) (hi : ab_ci o lv cs a i) : vp_in i n ∧ 0 ≤ i.toInt ∧ i.toInt.toNat < n := by
  have h' := of_decide_eq_true h
  have h1 := hi.1
  have e : i.toNatClampNeg = i.toInt.toNat := rfl
  refine ⟨?_, by omega, by omega⟩
  intro hb
  rcases hb with hb | hb
  · rw [Int32.lt_iff_toInt_lt] at hb
    have h0 : (0 : Int32).toInt = 0 := by decide
    omega
  · omega
theorem ab_ldk {fc : ab_F} {og : Option ab_Y} {lo hi : Int} {x : Int32} (hy : ∀ y, og = some y → ab_kv o lv cs y = some x.toInt) (hf : ab_cf o lv cs fc) (h1 : lo ≤ x.toInt) (h2 : x.toInt ≤ hi) : ab_ci o lv cs (ab_ld fc og lo hi) x := by
  unfold ab_ld
  split
  · exact ab_mk h1 h2 (fun _ h => (by cases h))
  · rename_i y
    have := ab_lkk (hy y rfl) hf h1 h2
    exact ⟨this, fun y' hy' => by cases hy'; exact hy y rfl, ab_lkdk (hy y rfl) hf⟩
theorem ab_ekk {a t n : Nat} {f : Nat → Int32} {b : ab_I} {i : Int32} (h : cs[a]? = some (.inl (t, n, .inl f))) (hi : ab_ci o lv cs b i) (h0 : 0 ≤ i.toInt) : ∀ y, ab_ek a b = some y → ab_kv o lv cs y = some (f i.toInt.toNat).toInt := by
  intro y hy
  have hr : ab_ri cs a i.toInt.toNat = some (f i.toInt.toNat).toInt := by
    unfold ab_ri ab_rd
    rw [h]
  unfold ab_ek at hy
  split at hy
  · rename_i e
    cases hy
    have h1 := hi.1
    have : b.1 = i.toInt := by omega
    show ab_ri cs a b.1.toNat = _
    rw [this]
    exact hr
  · split at hy
    · rename_i l j e
      cases hy
      have hk : ab_li lv l = some i.toInt := hi.2.1 _ e
      show (ab_li lv l).bind (fun x => if 0 ≤ x then ab_ri cs a x.toNat else none) = _
      rw [hk]
      show (if 0 ≤ i.toInt then ab_ri cs a i.toInt.toNat else none) = _
      rw [if_pos h0]
      exact hr
    · cases hy
/-! the stack, taken apart -/
theorem ab_capp : ∀ {as bs : List ab_V} {s t : ex_V}, ab_cst o lv cs as s → ab_cst o lv cs bs t → ab_cst o lv cs (as ++ bs) (s ++ t)
  | [], _, _, _, rfl, h2 => h2
  | a :: r, _, _, _, ⟨v, q, e, h1, h2⟩, h3 => by
    subst e
    exact ⟨v, q ++ _, rfl, h1, ab_capp h2 h3⟩
theorem ab_crev : ∀ {as : List ab_V} {s : ex_V}, ab_cst o lv cs as s → ab_cst o lv cs as.reverse s.reverse
  | [], _, rfl => rfl
  | a :: r, _, ⟨v, q, e, h1, h2⟩ => by
    subst e
    rw [List.reverse_cons, List.reverse_cons]
    exact ab_capp (ab_crev h2) ⟨v, [], rfl, h1, rfl⟩
theorem ab_ctake : ∀ {n : Nat} {as : List ab_V} {s : ex_V}, ab_cst o lv cs as s → ab_cst o lv cs (as.take n) (s.take n)
  | 0, _, _, _ => by simp [ab_cst]
  | n + 1, [], _, h => by cases h; simp [ab_cst]
  | n + 1, a :: r, _, ⟨v, q, e, h1, h2⟩ => by
    subst e
    exact ⟨v, q.take n, rfl, h1, ab_ctake h2⟩
theorem ab_cdrop : ∀ {n : Nat} {as : List ab_V} {s : ex_V}, ab_cst o lv cs as s → ab_cst o lv cs (as.drop n) (s.drop n)
  | 0, _, _, h => by simpa using h
  | n + 1, [], _, h => by cases h; simp [ab_cst]
  | n + 1, a :: r, _, ⟨v, q, e, h1, h2⟩ => by
    subst e
    rw [List.drop_succ_cons, List.drop_succ_cons]
    exact ab_cdrop (n := n) h2
theorem ab_clen : ∀ {as : List ab_V} {s : ex_V}, ab_cst o lv cs as s → as.length = s.length
  | [], _, h => by cases h; rfl
  | a :: r, _, ⟨v, q, e, h1, h2⟩ => by
    subst e
    simp [ab_clen h2]
theorem ab_cget : ∀ {as : List ab_V} {s : ex_V} {i : Nat} {a : ab_V}, ab_cst o lv cs as s → as[i]? = some a → ∃ v, s[i]? = some v ∧ ab_cv o lv cs a v
  | [], _, _, _, _, h => by simp at h
  | b :: r, _, 0, a, ⟨v, q, e, h1, h2⟩, h => by
    subst e
    simp at h
    subst h
    exact ⟨v, rfl, h1⟩
  | b :: r, _, i + 1, a, ⟨v, q, e, h1, h2⟩, h => by
    subst e
    simp at h
    obtain ⟨w, hw, hc⟩ := ab_cget h2 h
    exact ⟨w, by simpa using hw, hc⟩
theorem ab_csum : ∀ {as : List ab_V} {s : ex_V}, ab_cst o lv cs as s → (s.map (fun v => v.category)).sum = (as.map ab_c).sum
  | [], _, h => by cases h; rfl
  | a :: r, _, ⟨v, q, e, h1, h2⟩ => by
    subst e
    simp only [List.map_cons, List.sum_cons]
    rw [ab_cat h1, ab_csum h2]
theorem ab_sumk {as : List ab_V} {s : ex_V} (h : ab_sum as = true) (g : ab_cst o lv cs as s) : (s.map (fun v => v.category)).sum ≤ 8 := by
  rw [ab_csum g]
  exact of_decide_eq_true h
theorem ab_a {p : Prop} [Decidable p] {b : Bool} (h : (decide p && b) = true) : p ∧ b = true := by
  simp only [Bool.and_eq_true, decide_eq_true_eq] at h
  exact h
theorem ab_b {a b : Bool} (h : (a && b) = true) : a = true ∧ b = true := by
  simp only [Bool.and_eq_true] at h
  exact h
/-! calls -/
theorem ab_lek {a : ab_V} {t : ab_T} {v : Value} (h : ab_le a t = true) (g : ab_cv o lv cs a v) : ab_ct t v := by
  unfold ab_le at h
  split at h
  · have := of_decide_eq_true h
    subst this
    exact g
  · obtain ⟨h1, h2⟩ := ab_a h
    have h3 := of_decide_eq_true h2
    obtain ⟨x, rfl, hx, -⟩ := g
    exact ⟨x, rfl, by omega, by omega⟩
  · cases h
theorem ab_lesk : ∀ {as : List ab_V} {ts : List ab_T} {av : ex_V}, ab_les as ts = true → ab_cst o lv cs as av → av.length = ts.length ∧ ∀ (i : Nat) t, ts[i]? = some t → ∃ v, av[i]? = some v ∧ ab_ct t v
  | [], [], _, _, g => by
    cases g
    exact ⟨rfl, fun i t h => by simp at h⟩
  | a :: r, t :: s, _, h, ⟨v, q, e, h1, h2⟩ => by
    subst e
    obtain ⟨h3, h4⟩ := ab_b h
    obtain ⟨g1, g2⟩ := ab_lesk h4 h2
    refine ⟨by simp [g1], fun i t' ht => ?_⟩
    cases i with
    | zero =>
      simp at ht
      subst ht
      exact ⟨v, rfl, ab_lek h3 h1⟩
    | succ i =>
      simp at ht
      obtain ⟨w, hw, hc⟩ := g2 i t' ht
      exact ⟨w, by simpa using hw, hc⟩
  | [], _ :: _, _, h, _ => by cases h
  | _ :: _, [], _, h, _ => by cases h
theorem ab_avli {av : ex_V} {i : Nat} {x : Int32} (h : av[i]? = some (.int x)) : ab_li (av.map some) i = some x.toInt := by
  unfold ab_li
  rw [List.getElem?_map, h]
  rfl
theorem ab_prfk {fc : ab_F} {args : List ab_V} {av : ex_V} {q : ab_Y × Int × Int × Option (Nat × Int)} {o' : Nat → Int} (h : ab_prf fc args q = true) (g : ab_cst o lv cs args av) (hf : ab_cf o lv cs fc) : ab_q1 o' (av.map some) cs q := by
  obtain ⟨h0, h⟩ := ab_b h
  have hd : ∀ x : Int, ∀ d, q.2.2.2 = some d → x = o' d.1 + d.2 := fun x d e => by
    rw [e] at h0
    cases h0
  split at h
  · rename_i i c e
    split at h
    · rename_i a1 a2 l a3 a4 ea
      obtain ⟨v, hv, x, rfl, hx⟩ := ab_cget g ea
      obtain ⟨f, hm, h2⟩ := List.any_eq_true.mp h
      obtain ⟨h3, h4⟩ := ab_b h2
      obtain ⟨h5, h6⟩ := ab_a h4
      have h7 := of_decide_eq_true h6
      have e3 : f.1 = (3, l, c) := by simpa using h3
      obtain ⟨z, hz, z1, z2, -⟩ := hf f hm
      rw [e3] at hz
      have hk : ab_li lv l = some x.toInt := hx.2.1 _ rfl
      have hz' : (ab_li lv l).map (fun x => x.tmod (c : Int)) = some z := hz
      rw [hk] at hz'
      refine ⟨z, ?_, by omega, by omega, hd z⟩
      rw [e]
      show (ab_li (av.map some) i).map (fun x => x.tmod (c : Int)) = some z
      rw [ab_avli hv]
      exact hz'
    · cases h
  · rename_i k j e
    obtain ⟨f, hm, h2⟩ := List.any_eq_true.mp h
    obtain ⟨h3, h4⟩ := ab_b h2
    obtain ⟨h5, h6⟩ := ab_a h4
    have h7 := of_decide_eq_true h6
    have e3 : f.1 = (1, k, j) := by simpa using h3
    obtain ⟨z, hz, z1, z2, -⟩ := hf f hm
    rw [e3] at hz
    refine ⟨z, ?_, by omega, by omega, hd z⟩
    rw [e]
    exact hz
  · cases h
theorem ab_kv1 {a b : Nat} : ab_kv o lv cs (1, a, b) = ab_ri cs a b := rfl
theorem ab_dvp (f : Nat → Int) : ∀ (l : List (Nat × Nat × Nat)) (vs : List Int) (i : Nat), i < vs.length → (ab_dv f l vs)[i]? = vs[i]?
  | [], _, _, _ => rfl
  | e :: r, vs, i, h => by
    show (ab_dv f r (vs ++ [_]))[i]? = vs[i]?
    rw [ab_dvp f r _ i (by rw [List.length_append]; omega), List.getElem?_append_left h]
theorem ab_dvx (f : Nat → Int) (l : List (Nat × Nat × Nat)) (vs : List Int) (i : Nat) (h : i < 1000000000 + vs.length) : ab_dx f (ab_dv f l vs) i = ab_dx f vs i := by
  unfold ab_dx
  split
  · rfl
  · rw [ab_dvp f l vs (i - 1000000000) (by omega)]
theorem ab_dvn (f : Nat → Int) : ∀ (l : List (Nat × Nat × Nat)) (vs : List Int) (n : Nat) (e : Nat × Nat × Nat), l[n]? = some e → e.2.1 < 1000000000 + (vs.length + n) → (ab_dv f l vs)[vs.length + n]? = some (ab_dg e.1 (ab_dx f (ab_dv f l vs) e.2.1) (ab_dx f ((ab_dv f l vs).take (vs.length + n)) e.2.2) e.2.2)
  | [], _, n, e, h, _ => by simp at h
  | q :: r, vs, 0, e, h, hl => by
    simp at h
    subst h
    show (ab_dv f r (vs ++ [_]))[vs.length + 0]? = _
    rw [ab_dvp f r _ _ (by rw [List.length_append]; simp)]
    have e1 : ab_dx f (ab_dv f (q :: r) vs) q.2.1 = ab_dx f vs q.2.1 := ab_dvx f (q :: r) vs _ (by simpa using hl)
    have e2 : (ab_dv f (q :: r) vs).take (vs.length + 0) = vs := by
      apply List.ext_getElem?
      intro i
      rw [List.getElem?_take]
      split
      · rename_i hi
        exact ab_dvp f (q :: r) vs i (by simpa using hi)
      · rename_i hi
        rw [List.getElem?_eq_none (by simp at hi; omega)]
    rw [e1, e2]
    simp
  | q :: r, vs, n + 1, e, h, hl => by
    simp at h
    have := ab_dvn f r (vs ++ [ab_dg q.1 (ab_dx f vs q.2.1) (ab_dx f vs q.2.2) q.2.2]) n e h (by rw [List.length_append]; simp; omega)
    rw [List.length_append] at this
    simp only [List.length_cons, List.length_nil] at this
    rw [show vs.length + 1 + n = vs.length + (n + 1) by omega] at this
    exact this
theorem ab_dxt {f : Nat → Int} {vs : List Int} {n i : Nat} (h : i < 1000000000 + n) : ab_dx f (vs.take n) i = ab_dx f vs i := by
  unfold ab_dx
  split
  · rfl
  · rw [List.getElem?_take, if_pos (by omega)]
theorem ab_dg4 {x y y' : Int} {c : Nat} : ab_dg 4 x y c = ab_dg 4 x y' c := rfl
theorem ab_dg9 {x y y' : Int} {c : Nat} : ab_dg 9 x y c = ab_dg 9 x y' c := rfl
/-- the law of a derived number -/
theorem ab_oon {lv : ex_L} {cs : ex_C} {n t a b : Nat} (h : ab_dt[n]? = some (t, a, b)) (ha : a < 1000000000 + n) (hb : t = 4 ∨ t = 9 ∨ b < 1000000000 + n) : ab_oo lv cs (1000000000 + n) = ab_dg t (ab_oo lv cs a) (ab_oo lv cs b) b := by
  have := ab_dvn (ab_ob lv cs) ab_dt [] n (t, a, b) h (by simpa using ha)
  simp only [List.length_nil, Nat.zero_add] at this
  show ab_dx (ab_ob lv cs) (ab_dv (ab_ob lv cs) ab_dt []) (1000000000 + n) = _
  unfold ab_dx
  rw [if_neg (by omega), show 1000000000 + n - 1000000000 = n by omega, this]
  show ab_dg t _ _ b = _
  have ea : ∀ i, ab_dx (ab_ob lv cs) (ab_dv (ab_ob lv cs) ab_dt []) i = ab_oo lv cs i := fun _ => rfl
  rw [ea]
  rcases hb with rfl | rfl | hb
  · exact ab_dg4
  · exact ab_dg9
  · rw [ab_dxt hb, ea]
theorem ab_fjk {e : Nat × Nat × Nat} : ∀ {l : List (Nat × Nat × Nat)} {n k : Nat}, ab_fj e l n = some k → n ≤ k ∧ l[k - n]? = some e
  | [], _, _, h => by cases h
  | q :: r, n, k, h => by
    unfold ab_fj at h
    split at h
    · rename_i eq
      cases h
      subst eq
      exact ⟨Nat.le_refl _, by simp⟩
    · obtain ⟨h1, h2⟩ := ab_fjk h
      refine ⟨by omega, ?_⟩
      rw [show k - n = (k - (n + 1)) + 1 by omega]
      simpa using h2
theorem ab_oolw {lv : ex_L} {cs : ex_C} : ab_dlw (ab_oo lv cs) := by
  intro t a b k h
  unfold ab_di at h
  split at h
  · rename_i n e
    split at h
    · rename_i hc
      cases h
      have := (ab_fjk e).2
      exact ab_oon (by simpa using this) hc.1 hc.2
    · cases h
  · cases h
theorem ab_ooln {lv : ex_L} {cs : ex_C} : ab_dln (ab_oo lv cs) := by
  intro n a c h ha
  exact ab_oon h (by omega) (Or.inr (Or.inl rfl))
theorem ab_oob' {lv : ex_L} {cs : ex_C} {i : Nat} (h : i < 1000000000) : ab_oo lv cs i = ab_ob lv cs i := by
  unfold ab_oo ab_dx
  rw [if_pos h]
def ab_dgw (o : Nat → Int) (cs0 : ex_C) : Prop := ∀ (n : Nat) (p : Nat → Int) (cs' : ex_C), n < 100000000 → (∀ i, i < ab_gm n → p (i + 1) = o (i + 1)) → (∀ k ∈ ab_gs n, ∀ j, ab_rd cs' k j = ab_rd cs0 k j) → ab_gh n p cs' = o (900000000 + n)
theorem ab_oog {lv : ex_L} {cs : ex_C} : ab_dgw (ab_oo lv cs) cs := by
  intro n p cs' hn h1 h2
  rw [ab_oob' (by omega)]
  unfold ab_ob
  rw [if_neg (by omega), if_neg (by omega), show 900000000 + n - 900000000 = n by omega]
  refine ab_ghk (fun i hi => ?_) h2
  have := ab_gmk n
  rw [h1 i hi, ab_oob' (by omega)]
  unfold ab_ob
  rw [if_pos (by omega)]
theorem ab_tgk {args : List ab_V} {av : ex_V} {i : Nat} (hg : ab_dgw o cs0) (gw : ab_fr W cs0 cs) (g : ab_cst o lv cs args av) (h1 : 900000000 ≤ i) (h2 : i < 1000000000) : ∀ d, ab_tg W args (i - 900000000) = some d → ab_oo (av.map some) cs i = o d.1 + d.2 := by
  intro d h
  unfold ab_tg at h
  split at h
  · rename_i hc
    have hdd := Option.some.inj h
    obtain ⟨c1, c2⟩ := hc
    have e := hg (i - 900000000) (fun k => (ab_li (av.map some) k).getD 0) cs (by omega) (fun j hj => ?_) (fun k hk j => ?_)
    · rw [ab_oob' (by omega)]
      unfold ab_ob
      rw [if_neg (by omega), if_neg (by omega), e, ← hdd]
      exact (Int.add_zero _).symm
    · have h3 := List.all_eq_true.mp c1 j (List.mem_range.mpr hj)
      split at h3
      · rename_i a ea
        obtain ⟨v, hv, y, rfl, hy⟩ := ab_cget g ea
        have h4 := hy.2.2 _ (of_decide_eq_true h3)
        show (ab_li (av.map some) (j + 1)).getD 0 = _
        rw [ab_avli hv]
        show y.toInt = _
        rw [h4]
        show o (j + 1) + 0 = _
        omega
      · cases h3
    · refine gw k j ?_
      have h3 := List.all_eq_true.mp (List.all_eq_true.mp c2 k hk)
      unfold ab_cov
      rw [List.any_eq_false]
      intro w hw
      have h4 := h3 w hw
      simp at h4
      simp [h4]
  · cases h
/-- how the callee's numbers are told by ours -/
theorem ab_t0k {fc : ab_F} {args : List ab_V} {av : ex_V} (hgl : ab_dgw o cs0) (gw : ab_fr W cs0 cs) (g : ab_cst o lv cs args av) (hf : ab_cf o lv cs fc) : ∀ i d, ab_t0 W args fc i = some d → ab_oo (av.map some) cs i = o d.1 + d.2 := by
  intro i d h
  unfold ab_t0 at h
  split at h
  · rename_i hi
    rw [ab_oob' (by omega)]
    unfold ab_ob
    rw [if_pos hi]
    split at h
    · rename_i x ea
      obtain ⟨v, hv, y, rfl, hy⟩ := ab_cget g ea
      rw [ab_avli hv]
      exact hy.2.2 d h
    · cases h
  · rename_i hi
    split at h
    · rename_i hi2
      rw [ab_oob' (by omega)]
      unfold ab_ob
      rw [if_neg hi, if_pos hi2]
      cases hr : ab_ri cs ((i - 1000) / 1000) ((i - 1000) % 1000) with
      | none =>
        exfalso
        have : ∀ {fc : ab_F}, ab_cf o lv cs fc → ab_lkd (1, (i - 1000) / 1000, (i - 1000) % 1000) fc = some d → False := by
          intro fc
          induction fc with
          | nil => intro _ h; cases h
          | cons q r ih =>
            intro hf h
            unfold ab_lkd at h
            split at h
            · rename_i e
              simp only [Bool.and_eq_true, beq_iff_eq] at e
              obtain ⟨x, hx, -⟩ := hf q List.mem_cons_self
              rw [e.1] at hx
              rw [ab_kv1, hr] at hx
              cases hx
            · exact ih (fun p hp => hf p (List.mem_cons_of_mem _ hp)) h
        exact this hf h
      | some z => exact ab_lkdk (y := (1, (i - 1000) / 1000, (i - 1000) % 1000)) (by rw [ab_kv1]; exact hr) hf d h
    · rename_i hi2
      split at h
      · rename_i hi3
        exact ab_tgk hgl gw g (by omega) hi3 d h
      · cases h
theorem ab_tak {fc : ab_F} {args : List ab_V} {av : ex_V} (ho : ab_dlw o) (hn : ab_dln o) (hgl : ab_dgw o cs0) (gw : ab_fr W cs0 cs) (g : ab_cst o lv cs args av) (hf : ab_cf o lv cs fc) : ∀ i d, ab_ta W args fc i = some d → ab_oo (av.map some) cs i = o d.1 + d.2 := by
  intro i d h
  unfold ab_ta at h
  split at h
  · exact ab_t0k hgl gw g hf i d h
  · rename_i hi
    split at h
    · rename_i a b e
      split at h
      · rename_i ha
        obtain ⟨c, e1, e2⟩ := ab_d3k ho (ab_t0k hgl gw g hf a) (ab_t0k hgl gw g hf b) d h
        have h9 := ab_oon (lv := av.map some) (cs := cs) e (by omega) (Or.inr (Or.inr (by omega)))
        rw [show 1000000000 + (i - 1000000000) = i by omega] at h9
        rw [h9, e1, e2]
        show _ = ab_oo (av.map some) cs a + ab_oo (av.map some) cs b + 0
        rw [Int.add_zero]
        rfl
      · cases h
    · rename_i a b e
      split at h
      · rename_i ha
        obtain ⟨c, e1, e2⟩ := ab_d3k ho (ab_t0k hgl gw g hf a) (ab_t0k hgl gw g hf b) d h
        have h9 := ab_oon (lv := av.map some) (cs := cs) e (by omega) (Or.inr (Or.inr (by omega)))
        rw [show 1000000000 + (i - 1000000000) = i by omega] at h9
        rw [h9, e1, e2]
        show _ = (ab_oo (av.map some) cs a + ab_oo (av.map some) cs b).bmod (2 ^ 32) + 0
        rw [Int.add_zero]
        rfl
      · cases h
    · rename_i a c e
      split at h
      · rename_i ha
        cases hk : ab_d2 4 (ab_d1 (ab_t0 W args fc a)) (some c) with
        | none => rw [hk] at h; cases h
        | some k =>
          rw [hk] at h
          cases h
          obtain ⟨c', ec, e4⟩ := ab_d2k (y := o c) ho (ab_d1k (ab_t0k hgl gw g hf a)) (fun q e => by cases e; rfl) k hk
          cases ec
          have h9 := ab_oon (lv := av.map some) (cs := cs) e (by omega) (Or.inl rfl)
          rw [show 1000000000 + (i - 1000000000) = i by omega] at h9
          rw [h9, e4]
          show _ = ab_dg 4 (ab_oo (av.map some) cs a) (o c) c + 0
          rw [Int.add_zero]
          rfl
      · cases h
    · rename_i a c e
      split at h
      · rename_i ha
        cases hk : ab_w9 (ab_d1 (ab_t0 W args fc a)) (c : Int) with
        | none => rw [hk] at h; cases h
        | some k =>
          rw [hk] at h
          cases h
          have e4 := ab_w9k ho hn (ab_d1k (ab_t0k hgl gw g hf a)) k hk
          have h9 := ab_ooln (lv := av.map some) (cs := cs) _ _ _ e ha
          rw [show 1000000000 + (i - 1000000000) = i by omega] at h9
          dsimp only
          rw [h9, e4]
          omega
      · cases h
    · cases h
theorem ab_tdk {fc : ab_F} {args : List ab_V} {av : ex_V} {x : Int} {dl : Option (Nat × Int)} (ho : ab_dlw o) (hn : ab_dln o) (hgl : ab_dgw o cs0) (gw : ab_fr W cs0 cs) (g : ab_cst o lv cs args av) (hf : ab_cf o lv cs fc) (hx : ∀ d, dl = some d → x = ab_oo (av.map some) cs d.1 + d.2) : ∀ d, ab_td W args fc dl = some d → x = o d.1 + d.2 := by
  intro d h
  unfold ab_td at h
  split at h
  · rename_i d0
    split at h
    · rename_i e ee
      cases h
      have h1 := hx d0 rfl
      have h2 := ab_tak ho hn hgl gw g hf _ _ ee
      dsimp only
      omega
    · cases h
  · cases h
theorem ab_fin {ks : ab_F} {cs1 : ex_C} {fc fc0 : ab_F} {args : List ab_V} {av : ex_V} (ho : ab_dlw o) (hn : ab_dln o) (hgl : ab_dgw o cs0) (gw : ab_fr W cs0 cs) (g : ab_cst o lv cs args av) (hf0 : ab_cf o lv cs fc0) (h : ab_cf (ab_oo (av.map some) cs) [] cs1 ks) (hf : ab_cf o lv cs1 fc) : ab_cf o lv cs1 (ab_fn1 (ab_td W args fc0) ks ++ fc) := by
  intro q hq
  rcases List.mem_append.mp hq with hq | hq
  · obtain ⟨p, hp, rfl⟩ := List.mem_map.mp hq
    obtain ⟨h1, h2⟩ := List.mem_filter.mp hp
    obtain ⟨z, hz, b1, b2, b3⟩ := h p h1
    obtain ⟨⟨a, b, c⟩, lo, hi, dl⟩ := p
    have ha : a = 1 := by simpa using h2
    subst ha
    exact ⟨z, hz, b1, b2, ab_tdk ho hn hgl gw g hf0 b3⟩
  · exact hf q hq
theorem ab_appk {args : List ab_V} {av : ex_V} {tau : Nat → Option (Nat × Int)} {o' : Nat → Int} {k : ab_L → ab_F → Bool} (ha : ab_cst o lv cs args av) (ht : ∀ i d, tau i = some d → o' i = o d.1 + d.2) : ∀ {ks : ab_F} {al : ab_L} {fc : ab_F}, ab_app args tau k ks al fc = true → ab_cf o' (av.map some) [] ks → ab_cl o al lv → ab_cf o lv cs fc → ∃ al' fc', k al' fc' = true ∧ ab_cl o al' lv ∧ ab_cf o lv cs fc'
  | [], al, fc, h, _, g, hf => ⟨al, fc, h, g, hf⟩
  | q :: r, al, fc, h, hk, g, hf => by
    have hr : ab_cf o' (av.map some) [] r := fun p hp => hk p (List.mem_cons_of_mem _ hp)
    obtain ⟨z, hz, z1, z2, -⟩ := hk q List.mem_cons_self
    unfold ab_app at h
    split at h
    · rename_i i j e
      split at h
      · rename_i x ea
        obtain ⟨v, hv, y, rfl, hy⟩ := ab_cget ha ea
        rw [e] at hz
        have hz' : ab_li (av.map some) i = some z := hz
        rw [ab_avli hv] at hz'
        cases hz'
        obtain ⟨al1, fc1, h1, g1, f1⟩ := ab_rfk h z1 z2 hy.2.1 hy.2.2 g hf
        exact ab_appk ha ht h1 hr g1 f1
      · exact ab_appk ha ht h hr g hf
    · rename_i i c e
      split at h
      · rename_i a1 a2 l a3 a4 ea
        obtain ⟨v, hv, x, rfl, hx⟩ := ab_cget ha ea
        rw [e] at hz
        have hz' : (ab_li (av.map some) i).map (fun x => x.tmod (c : Int)) = some z := hz
        rw [ab_avli hv] at hz'
        have hkl : ab_li lv l = some x.toInt := hx.2.1 _ rfl
        refine ab_appk ha ht h hr g (fun p hp => ?_)
        rcases List.mem_cons.mp hp with rfl | hp
        · refine ⟨z, ?_, z1, z2, fun _ h => (by cases h)⟩
          show (ab_li lv l).map (fun x => x.tmod (c : Int)) = some z
          rw [hkl]
          exact hz'
        · exact hf p hp
      · exact ab_appk ha ht h hr g hf
    · rename_i i c e
      split at h
      · rename_i a1 a2 l a3 a4 ea
        obtain ⟨v, hv, x, rfl, hx⟩ := ab_cget ha ea
        rw [e] at hz
        have hz' : (ab_li (av.map some) i).map (fun x => x.tdiv (c : Int)) = some z := hz
        rw [ab_avli hv] at hz'
        have hkl : ab_li lv l = some x.toInt := hx.2.1 _ rfl
        refine ab_appk ha ht h hr g (fun p hp => ?_)
        rcases List.mem_cons.mp hp with rfl | hp
        · refine ⟨z, ?_, z1, z2, fun _ h => (by cases h)⟩
          show (ab_li lv l).map (fun x => x.tdiv (c : Int)) = some z
          rw [hkl]
          exact hz'
        · exact hf p hp
      · exact ab_appk ha ht h hr g hf
    · rename_i i c e
      split at h
      · rename_i a1 a2 l a3 a4 ea
        obtain ⟨v, hv, x, rfl, hx⟩ := ab_cget ha ea
        rw [e] at hz
        have hz' : (ab_li (av.map some) i).map (fun x => (x.tdiv ((c / 100000 : Nat) : Int)).tmod ((c % 100000 : Nat) : Int)) = some z := hz
        rw [ab_avli hv] at hz'
        have hkl : ab_li lv l = some x.toInt := hx.2.1 _ rfl
        refine ab_appk ha ht h hr g (fun p hp => ?_)
        rcases List.mem_cons.mp hp with rfl | hp
        · refine ⟨z, ?_, z1, z2, fun _ h => (by cases h)⟩
          show (ab_li lv l).map (fun x => (x.tdiv ((c / 100000 : Nat) : Int)).tmod ((c % 100000 : Nat) : Int)) = some z
          rw [hkl]
          exact hz'
        · exact hf p hp
      · exact ab_appk ha ht h hr g hf
    · rename_i i j e
      split at h
      · rename_i d ed
        have h1 := ht _ _ ed
        rw [e] at hz
        have hz' : some (o' i) = some z := hz
        cases hz'
        refine ab_appk ha ht h hr g (fun p hp => ?_)
        rcases List.mem_cons.mp hp with rfl | hp
        · exact ⟨o d.1, rfl, (by dsimp only; omega), (by dsimp only; omega), fun _ h => (by cases h)⟩
        · exact hf p hp
      · exact ab_appk ha ht h hr g hf
    · rename_i i j e
      split at h
      · rename_i d e' ed ee
        have h1 := ht _ _ ed
        have h2 := ht _ _ ee
        rw [e] at hz
        have hz' : some (o' i - o' j) = some z := hz
        cases hz'
        refine ab_appk ha ht h hr g (fun p hp => ?_)
        rcases List.mem_cons.mp hp with rfl | hp
        · exact ⟨o d.1 - o e'.1, rfl, (by dsimp only; omega), (by dsimp only; omega), fun _ h => (by cases h)⟩
        · exact hf p hp
      · exact ab_appk ha ht h hr g hf
    · exact ab_appk ha ht h hr g hf
theorem ab_callk (ho : ab_dlw o) (hn : ab_dln o) (hgl : ab_dgw o cs0) {l : List ab_C} {args rest : List ab_V} {al : ab_L} {fc : ab_F} {k : ab_L → List ab_V → ab_F → Bool} {av t : ex_V} {P : ex_V → ex_C → Prop} (h : ab_call W l args rest al fc k = true) (ga : ab_cst o lv cs args av) (gr : ab_cst o lv cs rest t) (gl : ab_cl o al lv) (gf : ab_cf o lv cs fc) (gh : ab_hk hd cs) (gw : ab_fr W cs0 cs) (kk : ∀ al' as' fc' st' cs', k al' as' fc' = true → ab_G hd W o cs0 al' as' fc' lv st' cs' → P st' cs') : ab_sp hd l av cs (fun r cs' => P (r.toList ++ t) cs') := by
  unfold ab_call at h
  split at h
  · rename_i c ec
    obtain ⟨h1, h2⟩ := ab_b h
    have hm := List.find?_some ec
    obtain ⟨h3, h4⟩ := ab_b hm
    obtain ⟨p1, p2⟩ := ab_lesk h3 ga
    refine ⟨c, List.mem_of_find?_eq_some ec, ⟨p1, p2, fun q hq => ab_prfk (List.all_eq_true.mp h4 q hq) ga gf⟩, gh, fun r cs1 hp => ?_⟩
    obtain ⟨q1, q2, s, hs, q3, q4, q5⟩ := hp
    have hw := ab_nwk (o := o) (lv := lv) q2
    have h5 := List.all_eq_true.mp h2 s hs
    obtain ⟨al', fc', h6, g6, f6⟩ := ab_appk (ab_kst hw ga) (ab_tak ho hn hgl gw ga gf) h5 q4 gl (ab_kcf hw gf)
    refine kk _ _ _ _ _ h6 ⟨g6, ?_, ab_fin ho hn hgl gw ga gf q5 f6, q1, gw.tr (q2.sub h1)⟩
    refine ab_capp ?_ (ab_kst hw gr)
    unfold ab_rt at q3
    split at q3
    · rename_i e
      rw [q3, e]
      rfl
    · rename_i q e
      obtain ⟨x, rfl, x1, x2⟩ := q3
      rw [e]
      exact ⟨.int x, [], rfl, ⟨x, rfl, ab_mk x1.1 x1.2 (ab_tdk ho hn hgl gw ga gf x2)⟩, rfl⟩
  · cases h
theorem ab_tbk {a : ab_I} {x : Int32} {k : Int → Int → Bool} {P : Int → Prop} (h1 : a.1 ≤ x.toInt) (h2 : x.toInt ≤ a.2.1) (kk : ∀ f, k x.toInt f = true → P f) : ∀ {l : List Int} {lo : Int}, ab_tb a k lo l = true → ex_tb x P lo l
  | [], _, _ => trivial
  | f :: r, lo, h => by
    obtain ⟨h3, h4⟩ := ab_b h
    refine ⟨fun e => ?_, ab_tbk h1 h2 kk h4⟩
    rw [e] at h1 h2 kk
    rw [if_pos ⟨h1, h2⟩] at h3
    exact kk f h3
theorem ab_lksk {a : ab_I} {x : Int32} {k : Int → Int → Bool} {P : Int → Prop} (h1 : a.1 ≤ x.toInt) (h2 : x.toInt ≤ a.2.1) (kk : ∀ f, k x.toInt f = true → P f) : ∀ {l : List (Int × Int)}, ab_lks a k l = true → ex_lk x P l
  | [], _ => trivial
  | f :: r, h => by
    obtain ⟨h3, h4⟩ := ab_b h
    refine ⟨fun e => ?_, ab_lksk h1 h2 kk h4⟩
    rw [e] at h1 h2 kk
    rw [if_pos ⟨h1, h2⟩] at h3
    exact kk f.2 h3
theorem ab_cjk {c c' pc : Nat} {off : Int} {a b : ab_I} {x y : Int32} {al : ab_L} {fc : ab_F} {K : Nat → ab_L → ab_F → Bool} {P : Nat → Prop} (h : ab_cj c c' pc off a b al fc K = true) (ha : ab_ci o lv cs a x) (hb : ab_ci o lv cs b y) (g : ab_cl o al lv) (hf : ab_cf o lv cs fc) (kk : ∀ t al' fc', K t al' fc' = true → ab_cl o al' lv → ab_cf o lv cs fc' → P t) : 0 ≤ (pc : Int) + off ∧ (ab_rl c x.toInt y.toInt → P ((pc : Int) + off).toNat) ∧ (ab_rl c' x.toInt y.toInt → P (pc + 3)) := by
  obtain ⟨h1, h2⟩ := ab_to.at h
  obtain ⟨h3, h4⟩ := ab_b h2
  refine ⟨h1, fun hr => ?_, fun hr => ?_⟩
  · obtain ⟨al', fc', h5, g5, f5⟩ := ab_brk h3 hr ha hb g hf
    exact kk _ _ _ h5 g5 f5
  · obtain ⟨al', fc', h5, g5, f5⟩ := ab_brk h4 hr ha hb g hf
    exact kk _ _ _ h5 g5 f5
theorem ab_c0 : ab_ci o lv cs (ab_cn 0) (0 : Int32) := by
  have h0 : (0 : Int32).toInt = 0 := by decide
  have := ab_cnk (o := o) (lv := lv) (cs := cs) (0 : Int32)
  rw [h0] at this
  exact this
theorem ab_stk {al : ab_L} {as : List ab_V} {fc : ab_F} {k : Nat} {K : ab_L → List ab_V → ab_F → Bool} {st : ex_V} {P : ex_L → ex_V → Prop} (h : ab_st al as fc k K = true) (g : ab_G hd W o cs0 al as fc lv st cs) (kk : ∀ al' as' fc' lv' st', K al' as' fc' = true → ab_G hd W o cs0 al' as' fc' lv' st' cs → P lv' st') : ex_i1 st (fun x r => ex_so lv k ∧ P (lv.set k (some (.int x))) r) := by
  obtain ⟨a, x, r, t, rfl, ha, ht, h1⟩ := ab_i1.at h g.2.1
  obtain ⟨h2, h3⟩ := ab_b h1
  exact And.intro (ab_sok h2 g.1) (kk _ _ _ _ _ h3 ⟨ab_clset g.1 ⟨x, rfl, ha.1, ha.2.2⟩, ab_kst ab_nlk ht, ab_kcf ab_nlk g.2.2.1, g.2.2.2⟩)
theorem ab_srk {al : ab_L} {as : List ab_V} {fc : ab_F} {k : Nat} {K : ab_L → List ab_V → ab_F → Bool} {st : ex_V} {P : ex_L → ex_V → Prop} (h : ab_sr al as fc k K = true) (g : ab_G hd W o cs0 al as fc lv st cs) (kk : ∀ al' as' fc' lv' st', K al' as' fc' = true → ab_G hd W o cs0 al' as' fc' lv' st' cs → P lv' st') : ex_r1 st (fun x r => ex_so lv k ∧ P (lv.set k (some (.ref x))) r) := by
  obtain ⟨a, r, t, rfl, ht, h1⟩ := ab_r1.at h g.2.1
  obtain ⟨h2, h3⟩ := ab_b h1
  exact And.intro (ab_sok h2 g.1) (kk _ _ _ _ _ h3 ⟨ab_clset g.1 rfl, ab_kst ab_nlk ht, ab_kcf ab_nlk g.2.2.1, g.2.2.2⟩)
theorem ab_slk {al : ab_L} {as : List ab_V} {fc : ab_F} {k : Nat} {K : ab_L → List ab_V → ab_F → Bool} {st : ex_V} {P : ex_L → ex_V → Prop} (h : ab_sl al as fc k K = true) (g : ab_G hd W o cs0 al as fc lv st cs) (kk : ∀ al' as' fc' lv' st', K al' as' fc' = true → ab_G hd W o cs0 al' as' fc' lv' st' cs → P lv' st') : ex_l1 st (fun x r => ex_so lv k ∧ k + 1 < lv.length ∧ P ((lv.set k (some (.long x))).set (k + 1) none) r) := by
  obtain ⟨a, x, r, t, rfl, ha, ht, h1⟩ := ab_l1.at h g.2.1
  obtain ⟨h2, h3⟩ := ab_b h1
  obtain ⟨h4, h5⟩ := ab_a h3
  have hn : ∀ y z, (ab_nl k y && ab_nl (k + 1) y) = true → ab_kv o lv cs y = some z → ab_kv o ((lv.set k (some (.long x))).set (k + 1) none) cs y = some z := fun y z hy hz => ab_nlk y z (ab_b hy).2 (ab_nlk y z (ab_b hy).1 hz)
  exact And.intro (ab_sok h2 g.1) (And.intro (by rw [← g.1.1]; exact h4) (kk _ _ _ _ _ h5 ⟨ab_clset (ab_clset g.1 ⟨x, rfl, ha⟩) (fun w hw => by cases hw), ab_kst hn ht, ab_kcf hn g.2.2.1, g.2.2.2⟩))
theorem ab_wrk {w : Nat × Option Nat} {r : List ab_V} {fc : ab_F} {K : List ab_V → ab_F → Bool} {t : ex_V} {al : ab_L} (h : ab_wr W w r fc K = true) (hfr : ab_fr [w] cs cs') (hh : ab_hk hd cs') (gl : ab_cl o al lv) (gr : ab_cst o lv cs r t) (gf : ab_cf o lv cs fc) (gw : ab_fr W cs0 cs) : ∃ r' fc', K r' fc' = true ∧ ab_G hd W o cs0 al r' fc' lv t cs' := by
  obtain ⟨h1, h2⟩ := ab_b h
  exact ⟨_, _, h2, gl, ab_kst (ab_nwk hfr) gr, ab_kcf (ab_nwk hfr) gf, hh, gw.tr (hfr.one h1)⟩
theorem ab_objk {a ci : Nat} {k : List ab_T → Bool} (h : ab_obj hd a ci k = true) : ∃ ts, hd[a]? = some (.inl (ci, ts)) ∧ k ts = true := by
  unfold ab_obj at h
  split at h
  · rename_i c ts e
    obtain ⟨h1, h2⟩ := ab_a h
    subst h1
    exact ⟨ts, e, h2⟩
  · cases h
theorem ab_ar1k {a t : Nat} {k : Nat → Int → Int → Bool} (h : ab_ar1 hd a t k = true) : ∃ n m lo hi, hd[a]? = some (.inr (t, n, [(m, lo, hi)])) ∧ n ≤ m ∧ k n lo hi = true := by
  unfold ab_ar1 at h
  split at h
  · rename_i t2 n m lo hi e
    obtain ⟨h1, h2⟩ := ab_a h
    obtain ⟨h3, h4⟩ := ab_a h2
    subst h1
    exact ⟨n, m, lo, hi, e, h3, h4⟩
  · cases h
theorem ab_arrk {a t : Nat} {i : ab_I} {k : Nat → Int → Int → Bool} (h : ab_arr hd a t i k = true) : ∃ n sg b, hd[a]? = some (.inr (t, n, sg)) ∧ ab_bd n sg i = some b ∧ k n b.1 b.2 = true := by
  unfold ab_arr at h
  split at h
  · rename_i t2 n sg e
    obtain ⟨h1, h2⟩ := ab_a h
    subst h1
    split at h2
    · rename_i b eb
      exact ⟨n, sg, b, e, eb, h2⟩
    · cases h2
  · cases h
theorem ab_bdk {n : Nat} {sg : List (Nat × Int × Int)} {a : ab_I} {b : Int × Int} {i : Int32} (h : ab_bd n sg a = some b) (hi : ab_ci o lv cs a i) (hn : i.toInt.toNat < n) : ab_sg sg i.toInt.toNat = b := by
  unfold ab_bd at h
  split at h
  · rename_i q
    split at h
    · cases h
      show (if i.toInt.toNat < q.1 then q.2 else _) = _
      rw [if_pos (by omega)]
    · cases h
  · split at h
    · rename_i e
      cases h
      have h1 := hi.1
      rw [show a.1 = i.toInt by omega]
    · cases h
theorem ab_arrset {a t n m : Nat} {lo hi : Int} {g : Nat → Int32} (h : ab_hk hd cs) (e : hd[a]? = some (.inr (t, n, [(m, lo, hi)]))) (hn : n ≤ m) (hg : ∀ j, j < n → lo ≤ (g j).toInt ∧ (g j).toInt ≤ hi) : ab_hk hd (cs.set a (.inl (t, n, .inl g))) := by
  refine h.set e ⟨g, rfl, fun j hj => ?_⟩
  have es : ab_sg [(m, lo, hi)] j = (lo, hi) := by
    show (if j < m then (lo, hi) else _) = _
    rw [if_pos (by have : j < n := hj; omega)]
  dsimp only
  rw [es]
  exact hg j hj
theorem ab_fitk {ty : FieldType} {v : ab_V} {w : Value} (h : ab_fit ty v = true) (g : ab_cv o lv cs v w) : ex_fit ty w := by
  unfold ab_fit at h
  split at h
  · obtain ⟨x, rfl, -⟩ := g; trivial
  · obtain ⟨x, rfl, -⟩ := g; trivial
  · obtain ⟨x, rfl, hx, -⟩ := g
    obtain ⟨h1, h2⟩ := ab_a h
    have h3 := of_decide_eq_true h2
    exact ab_01 (by omega) (by omega)
  · cases g; trivial
  · cases g; trivial
  · cases h
/-- the bounds of the static arrays -/
def ab_xo (xs : List (Nat × Int × Int × List Int)) (xt : ex_xt) : Prop := ∀ (j : Nat) q, xs[j]? = some q → ∃ f, xt[j]? = some (q.1, f) ∧ ∀ i, i < q.1 → (q.2.1 ≤ (f i).toInt ∧ (f i).toInt ≤ q.2.2.1) ∧ ∀ v, q.2.2.2[i]? = some v → (f i).toInt = v
theorem ab_xek {q : Nat × Int × Int × List Int} {f : Nat → Int32} {a : ab_I} {i : Int32} (hi : ab_ci o lv cs a i) (h : (q.2.1 ≤ (f i.toInt.toNat).toInt ∧ (f i.toInt.toNat).toInt ≤ q.2.2.1) ∧ ∀ v, q.2.2.2[i.toInt.toNat]? = some v → (f i.toInt.toNat).toInt = v) : ab_ci o lv cs (ab_xe q a) (f i.toInt.toNat) := by
  unfold ab_xe
  split
  · rename_i e
    have h1 := hi.1
    have ei : a.1 = i.toInt := by omega
    split
    · rename_i v ev
      rw [ei] at ev
      have := h.2 v ev
      exact ab_mk (by omega) (by omega) (fun _ h => (by cases h))
    · exact ab_mk h.1.1 h.1.2 (fun _ h => (by cases h))
  · exact ab_mk h.1.1 h.1.2 (fun _ h => (by cases h))
theorem ab_upd {f : Nat → Int32} {i : Nat} {x : Int32} {n : Nat} {lo hi : Int} (h : ∀ j, j < n → lo ≤ (f j).toInt ∧ (f j).toInt ≤ hi) (h1 : lo ≤ x.toInt) (h2 : x.toInt ≤ hi) : ∀ j, j < n → lo ≤ (upd f i x j).toInt ∧ (upd f i x j).toInt ≤ hi := by
  intro j hj
  unfold upd
  split
  · exact ⟨h1, h2⟩
  · exact h j hj
theorem ab_wkk {b : ab_I} {i : Int32} {f : Nat → Int32} {x : Int32} (hb : ab_ci o lv cs b i) : ∀ j, ab_wk b ≠ none → ab_wk b ≠ some j → upd f i.toNatClampNeg x j = f j := by
  intro j h1 h2
  unfold ab_wk at h1 h2
  split at h2
  · rename_i e
    have hh := hb.1
    have e2 : i.toNatClampNeg = i.toInt.toNat := rfl
    have e3 : b.1.toNat ≠ j := fun q => h2 (by rw [q])
    unfold upd
    rw [if_neg (by omega)]
  · rename_i e
    rw [if_neg e] at h1
    exact absurd rfl h1
end ABT

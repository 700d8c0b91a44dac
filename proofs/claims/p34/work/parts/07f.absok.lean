/-! the walk over bounds is right -/
section ABS
variable {hd : List ab_H} {xs : List (Nat × Int × Int × List Int)} {xt : ex_xt} {W : ab_W} {o : Nat → Int} {cs0 cs cs' : ex_C} {lv lv' : ex_L}
theorem ab_bm {z : Int} (h1 : -2147483648 ≤ z) (h2 : z ≤ 2147483647) : z.bmod (2 ^ 32) = z := by
  rw [Int.bmod_def]
  have : ((2 ^ 32 : Nat) : Int) = 4294967296 := by decide
  rw [this]
  omega
theorem ab_ge (x : Int32) : -2147483648 ≤ x.toInt := by
  have := Int32.le_toInt x
  simpa using this
theorem ab_lt' (x : Int32) : x.toInt ≤ 2147483647 := by
  have := Int32.toInt_lt x
  have h2 : (2 : Int) ^ 31 = 2147483648 := by decide
  omega
theorem ab_lge (x : Int64) : -9223372036854775808 ≤ x.toInt := by
  have := Int64.le_toInt x
  simpa using this
theorem ab_llt (x : Int64) : x.toInt ≤ 9223372036854775807 := by
  have := Int64.toInt_lt x
  have h2 : (2 : Int) ^ 63 = 9223372036854775808 := by decide
  omega
/-- the derived numbers are what they say -/
def ab_dlw (o : Nat → Int) : Prop := ∀ t a b k, ab_di t a b = some k → o k = ab_dg t (o a) (o b) b
theorem ab_d2k {t : Nat} {a b : Option Nat} {x y : Int} (ho : ab_dlw o) (ha : ∀ q, a = some q → x = o q) (hb : ∀ q, b = some q → y = o q) : ∀ k, ab_d2 t a b = some k → ∃ c, b = some c ∧ o k = ab_dg t x y c := by
  intro k h
  unfold ab_d2 at h
  split at h
  · rename_i p q
    refine ⟨q, rfl, ?_⟩
    rw [ho _ _ _ _ h, ha p rfl, hb q rfl]
  · cases h
theorem ab_d1k {d : Option (Nat × Int)} {x : Int} (h : ∀ q, d = some q → x = o q.1 + q.2) : ∀ q, ab_d1 d = some q → x = o q := by
  intro q hq
  unfold ab_d1 at hq
  split at hq
  · rename_i p
    split at hq
    · rename_i e
      cases hq
      have := h p rfl
      omega
    · cases hq
  · cases hq
theorem ab_d3k {t : Nat} {a b : Option (Nat × Int)} {x y : Int} (ho : ab_dlw o) (ha : ∀ q, a = some q → x = o q.1 + q.2) (hb : ∀ q, b = some q → y = o q.1 + q.2) : ∀ d, ab_d3 t a b = some d → ∃ c, d.2 = 0 ∧ o d.1 = ab_dg t x y c := by
  intro d h
  unfold ab_d3 at h
  cases hk : ab_d2 t (ab_d1 a) (ab_d1 b) with
  | none => rw [hk] at h; cases h
  | some k =>
    rw [hk] at h
    cases h
    obtain ⟨c, -, e⟩ := ab_d2k ho (ab_d1k ha) (ab_d1k hb) k hk
    exact ⟨c, rfl, e⟩
theorem ab_mk {lo hi : Int} {dl : Option (Nat × Int)} {x : Int32} (h1 : lo ≤ x.toInt) (h2 : x.toInt ≤ hi) (h3 : ∀ q, dl = some q → x.toInt = o q.1 + q.2) : ab_ci o lv cs (lo, hi, none, dl) x := ⟨⟨h1, h2⟩, fun _ h => (by cases h), h3⟩
theorem ab_topk (x : Int32) : ab_ci o lv cs ab_top x := ab_mk (ab_ge x) (ab_lt' x) (fun _ h => (by cases h))
theorem ab_cnk (x : Int32) : ab_ci o lv cs (ab_cn x.toInt) x := ab_mk (Int.le_refl _) (Int.le_refl _) (fun _ h => (by cases h))
theorem ab_rgk {lo hi z : Int} {dl : Option (Nat × Int)} {x : Int32} (hx : x.toInt = z.bmod (2 ^ 32)) (h1 : lo ≤ z) (h2 : z ≤ hi) (h3 : ∀ q, dl = some q → z = o q.1 + q.2) : ab_ci o lv cs (ab_rg lo hi dl) x := by
  unfold ab_rg
  split
  · rename_i hr
    have e : x.toInt = z := by rw [hx, ab_bm (by omega) (by omega)]
    exact ab_mk (by rw [e]; exact h1) (by rw [e]; exact h2) (by rw [e]; exact h3)
  · exact ab_topk x
theorem ab_dpk {a c : ab_I} {x y : Int32} {s : Int} (ha : ab_ci o lv cs a x) (hc : ab_ci o lv cs c y) : ∀ q, ab_dp a.2.2.2 c s = some q → x.toInt + s * y.toInt = o q.1 + q.2 := by
  intro q hq
  unfold ab_dp at hq
  split at hq
  · rename_i q0 e0
    split at hq
    · rename_i e
      cases hq
      have h1 := ha.2.2 _ e0
      have hy : y.toInt = c.1 := by have := hc.1.1; have := hc.1.2; omega
      dsimp only
      rw [h1, hy]
      omega
    · cases hq
  · cases hq
theorem ab_dak {a b : ab_I} {x y : Int32} (ho : ab_dlw o) (ha : ab_ci o lv cs a x) (hb : ab_ci o lv cs b y) : ∀ q, ab_da a b = some q → x.toInt + y.toInt = o q.1 + q.2 := by
  intro q hq
  unfold ab_da at hq
  split at hq
  · rename_i q0 e0
    cases hq
    have := ab_dpk ha hb _ e0
    omega
  · split at hq
    · rename_i q0 e0
      cases hq
      have := ab_dpk hb ha _ e0
      omega
    · obtain ⟨c, e1, e2⟩ := ab_d3k ho ha.2.2 hb.2.2 q hq
      rw [e1, e2]
      show _ = x.toInt + y.toInt + 0
      omega
theorem ab_dsk {a b : ab_I} {x y : Int32} (ho : ab_dlw o) (ha : ab_ci o lv cs a x) (hb : ab_ci o lv cs b y) : ∀ q, ab_ds a b = some q → x.toInt - y.toInt = o q.1 + q.2 := by
  intro q hq
  unfold ab_ds at hq
  split at hq
  · rename_i q0 e0
    cases hq
    have := ab_dpk ha hb _ e0
    omega
  · obtain ⟨c, e1, e2⟩ := ab_d3k ho ha.2.2 hb.2.2 q hq
    rw [e1, e2]
    show _ = x.toInt - y.toInt + 0
    omega
theorem ab_bm2 {x c e : Int} : ((x + c).bmod (2 ^ 32) + e).bmod (2 ^ 32) = (x + (c + e)).bmod (2 ^ 32) := by
  rw [Int.bmod_def, Int.bmod_def, Int.bmod_def]
  have : ((2 ^ 32 : Nat) : Int) = 4294967296 := by decide
  rw [this]
  omega
/-- what the table says of its own rows -/
def ab_dln (o : Nat → Int) : Prop := ∀ (n a c : Nat), ab_dt[n]? = some (9, a, c) → a < 1000000000 → o (1000000000 + n) = (o a + (c : Int)).bmod (2 ^ 32)
theorem ab_w9k {d : Option Nat} {c x : Int} (ho : ab_dlw o) (hn : ab_dln o) (hd : ∀ q, d = some q → x = o q) : ∀ k, ab_w9 d c = some k → o k = (x + c).bmod (2 ^ 32) := by
  intro k h
  unfold ab_w9 at h
  split at h
  · rename_i a
    have hx := hd a rfl
    split at h
    · cases h
    · rename_i hc
      have hcc : ((c.toNat : Nat) : Int) = c := Int.toNat_of_nonneg (by omega)
      split at h
      · rw [ho _ _ _ _ h, hx]
        show (o a + ((c.toNat : Nat) : Int)).bmod (2 ^ 32) = _
        rw [hcc]
      · rename_i ha
        split at h
        · rename_i b e eb
          split at h
          · rename_i hb
            have h9 := hn _ _ _ eb hb
            rw [show 1000000000 + (a - 1000000000) = a by omega] at h9
            rw [ho _ _ _ _ h, hx, h9, ab_bm2]
            show (o b + ((e + c.toNat : Nat) : Int)).bmod (2 ^ 32) = _
            rw [Int.natCast_add, hcc]
          · cases h
        · cases h
  · cases h
theorem ab_wak {a b : ab_I} {x y : Int32} (ho : ab_dlw o) (hn : ab_dln o) (ha : ab_ci o lv cs a x) (hb : ab_ci o lv cs b y) : ∀ q, ab_wa a b = some q → (x + y).toInt = o q.1 + q.2 := by
  intro q hq
  have h1 := ha.1
  have h2 := hb.1
  unfold ab_wa at hq
  rw [Int32.toInt_add]
  split at hq
  · rename_i e
    have hy : y.toInt = b.1 := by omega
    cases hk : ab_w9 (ab_d1 a.2.2.2) b.1 with
    | none => rw [hk] at hq; cases hq
    | some k =>
      rw [hk] at hq
      cases hq
      dsimp only
      rw [ab_w9k ho hn (ab_d1k ha.2.2) k hk, hy]
      omega
  · split at hq
    · rename_i e
      have hy : x.toInt = a.1 := by omega
      cases hk : ab_w9 (ab_d1 b.2.2.2) a.1 with
      | none => rw [hk] at hq; cases hq
      | some k =>
        rw [hk] at hq
        cases hq
        dsimp only
        rw [ab_w9k ho hn (ab_d1k hb.2.2) k hk, hy, Int.add_comm]
        omega
    · cases hk : ab_d2 10 (ab_d1 a.2.2.2) (ab_d1 b.2.2.2) with
      | none => rw [hk] at hq; cases hq
      | some k =>
        rw [hk] at hq
        cases hq
        obtain ⟨c, -, e⟩ := ab_d2k ho (ab_d1k ha.2.2) (ab_d1k hb.2.2) k hk
        dsimp only
        rw [e]
        show _ = (x.toInt + y.toInt).bmod (2 ^ 32) + 0
        omega
theorem ab_addk {a b : ab_I} {x y : Int32} (ho : ab_dlw o) (hn : ab_dln o) (ha : ab_ci o lv cs a x) (hb : ab_ci o lv cs b y) : ab_ci o lv cs (ab_add a b) (x + y) := by
  have h1 := ha.1
  have h2 := hb.1
  unfold ab_add
  split
  · rename_i hr
    have es : (x + y).toInt = x.toInt + y.toInt := by
      rw [Int32.toInt_add, ab_bm (by omega) (by omega)]
    exact ab_mk (by rw [es]; omega) (by rw [es]; omega) (fun q hq => by rw [es]; exact ab_dak ho ha hb q hq)
  · exact ab_mk (ab_ge _) (ab_lt' _) (ab_wak ho hn ha hb)
theorem ab_mulk {a b : ab_I} {x y : Int32} (ha : ab_ci o lv cs a x) (hb : ab_ci o lv cs b y) : ab_ci o lv cs (ab_mul a b) (x * y) := by
  have h1 := ha.1
  have h2 := hb.1
  unfold ab_mul
  split
  · rename_i e
    have hy : y.toInt = b.1 := by omega
    refine ab_rgk (Int32.toInt_mul x y) ?_ ?_ (fun _ h => (by cases h))
    · rw [hy]; exact Int.mul_le_mul_of_nonneg_right h1.1 e.2
    · rw [hy]; exact Int.mul_le_mul_of_nonneg_right h1.2 e.2
  · split
    · rename_i e
      have hy : x.toInt = a.1 := by omega
      refine ab_rgk (Int32.toInt_mul x y) ?_ ?_ (fun _ h => (by cases h))
      · rw [hy, Int.mul_comm a.1]; exact Int.mul_le_mul_of_nonneg_right h2.1 e.2
      · rw [hy, Int.mul_comm a.1]; exact Int.mul_le_mul_of_nonneg_right h2.2 e.2
    · exact ab_topk _
theorem ab_nzk {lo hi : Int} {y : Int32} (h : ab_nz lo hi = true) (h1 : lo ≤ y.toInt) (h2 : y.toInt ≤ hi) : ¬ y = 0 := by
  intro e
  subst e
  have h3 : (0 : Int32).toInt = 0 := by decide
  unfold ab_nz at h
  have := of_decide_eq_true h
  omega
theorem ab_lnzk {lo hi : Int} {y : Int64} (h : ab_nz lo hi = true) (h1 : lo ≤ y.toInt) (h2 : y.toInt ≤ hi) : ¬ y = 0 := by
  intro e
  subst e
  have h3 : (0 : Int64).toInt = 0 := by decide
  unfold ab_nz at h
  have := of_decide_eq_true h
  omega
theorem ab_tm {x c : Int} (hc : 0 < c) : x.tmod c ≤ c - 1 ∧ 1 - c ≤ x.tmod c ∧ (0 ≤ x → 0 ≤ x.tmod c) := by
  have h1 := Int.tmod_lt_of_pos x hc
  have h2 := Int.lt_tmod_of_pos x hc
  exact ⟨by omega, by omega, fun h => Int.tmod_nonneg c h⟩
theorem ab_remq {x y : Int32} (hc : 0 < y.toInt) : (x - x / y * y).toInt = x.toInt.tmod y.toInt := by
  have hm := @ab_tm x.toInt y.toInt hc
  have hx1 := ab_ge x
  have hx2 := ab_lt' x
  have hy2 := ab_lt' y
  have e1 : x.toInt.tmod y.toInt = x.toInt - y.toInt * x.toInt.tdiv y.toInt := Int.tmod_def _ _
  have q1 : -2147483648 ≤ x.toInt.tdiv y.toInt ∧ x.toInt.tdiv y.toInt ≤ 2147483647 ∧ (0 ≤ x.toInt → 0 ≤ y.toInt * x.toInt.tdiv y.toInt) ∧ (x.toInt < 0 → y.toInt * x.toInt.tdiv y.toInt ≤ 0 ∧ x.toInt ≤ y.toInt * x.toInt.tdiv y.toInt) := by
    rcases Int.lt_or_le x.toInt 0 with hn | hn
    · have hq : x.toInt.tdiv y.toInt = - ((- x.toInt) / y.toInt) := by
        rw [← Int.tdiv_eq_ediv_of_nonneg (by omega : 0 ≤ - x.toInt), Int.neg_tdiv, Int.neg_neg]
      have a1 : (- x.toInt) / y.toInt ≤ - x.toInt := Int.ediv_le_self _ (by omega)
      have a2 : 0 ≤ (- x.toInt) / y.toInt := Int.ediv_nonneg (by omega) (by omega)
      refine ⟨by omega, by omega, fun h => by omega, fun _ => ?_⟩
      rw [hq, Int.mul_neg]
      have := Int.mul_nonneg (Int.le_of_lt hc) a2
      have h9 : y.toInt * ((- x.toInt) / y.toInt) ≤ - x.toInt := Int.mul_ediv_self_le (by omega)
      omega
    · have hq : x.toInt.tdiv y.toInt = x.toInt / y.toInt := Int.tdiv_eq_ediv_of_nonneg hn
      have a1 : x.toInt / y.toInt ≤ x.toInt := Int.ediv_le_self _ hn
      have a2 : 0 ≤ x.toInt / y.toInt := Int.ediv_nonneg hn (by omega)
      refine ⟨by omega, by omega, fun _ => ?_, fun h => by omega⟩
      rw [hq]
      exact Int.mul_nonneg (Int.le_of_lt hc) a2
  have e2 : (x / y).toInt = x.toInt.tdiv y.toInt := by
    rw [Int32.toInt_div, ab_bm q1.1 q1.2.1]
  have e3 : (x / y * y).toInt = y.toInt * x.toInt.tdiv y.toInt := by
    rw [Int32.toInt_mul, e2, Int.mul_comm, ab_bm]
    · rcases Int.lt_or_le x.toInt 0 with hn | hn
      · have := q1.2.2.2 hn; omega
      · have := q1.2.2.1 hn; omega
    · rcases Int.lt_or_le x.toInt 0 with hn | hn
      · have := q1.2.2.2 hn; omega
      · have := hm.2.2 hn; omega
  rw [Int32.toInt_sub, e3, ab_bm (by omega) (by omega)]
  omega
theorem ab_lkk {y : ab_Y} {z : Int} (hy : ab_kv o lv cs y = some z) : ∀ {fc : ab_F} {lo hi : Int}, ab_cf o lv cs fc → lo ≤ z → z ≤ hi → (ab_lk y fc lo hi).1 ≤ z ∧ z ≤ (ab_lk y fc lo hi).2
  | [], lo, hi, _, h1, h2 => ⟨h1, h2⟩
  | q :: r, lo, hi, hf, h1, h2 => by
    have hr : ab_cf o lv cs r := fun p hp => hf p (List.mem_cons_of_mem _ hp)
    unfold ab_lk
    split
    · rename_i e
      have e : q.1 = y := by simpa using e
      obtain ⟨x, hx, g1, g2, -⟩ := hf q List.mem_cons_self
      rw [e, hy] at hx
      cases hx
      exact ab_lkk hy hr (by omega) (by omega)
    · exact ab_lkk hy hr h1 h2
theorem ab_lkdk {y : ab_Y} {z : Int} (hy : ab_kv o lv cs y = some z) : ∀ {fc : ab_F}, ab_cf o lv cs fc → ∀ d, ab_lkd y fc = some d → z = o d.1 + d.2
  | [], _, d, h => by cases h
  | q :: r, hf, d, h => by
    have hr : ab_cf o lv cs r := fun p hp => hf p (List.mem_cons_of_mem _ hp)
    unfold ab_lkd at h
    split at h
    · rename_i e
      simp only [Bool.and_eq_true, beq_iff_eq] at e
      obtain ⟨x, hx, -, -, g3⟩ := hf q List.mem_cons_self
      rw [e.1, hy] at hx
      cases hx
      exact g3 d h
    · exact ab_lkdk hy hr d h
theorem ab_subk {fc : ab_F} {a b : ab_I} {x y : Int32} (ho : ab_dlw o) (hf : ab_cf o lv cs fc) (ha : ab_ci o lv cs a x) (hb : ab_ci o lv cs b y) : ab_ci o lv cs (ab_sub fc a b) (x - y) := by
  have h1 := ha.1
  have h2 := hb.1
  unfold ab_sub
  split
  · rename_i k j i j' e1 e2
    split
    · rename_i hr
      have hk : ab_ri cs k j = some x.toInt := ha.2.1 _ e1
      have hi : ab_li lv i = some y.toInt := hb.2.1 _ e2
      have hv : ab_kv o lv cs (4, 1000 * k + j, i) = some (x.toInt - y.toInt) := by
        show (ab_ri cs ((1000 * k + j) / 1000) ((1000 * k + j) % 1000)).bind (fun x => (ab_li lv i).map (fun z => x - z)) = _
        rw [show (1000 * k + j) / 1000 = k by omega, show (1000 * k + j) % 1000 = j by omega, hk, hi]
        rfl
      have es : (x - y).toInt = x.toInt - y.toInt := by
        rw [Int32.toInt_sub, ab_bm (by omega) (by omega)]
      obtain ⟨g1, g2⟩ := ab_lkk hv hf (lo := a.1 - b.2.1) (hi := a.2.1 - b.1) (by omega) (by omega)
      refine ⟨⟨by rw [es]; exact g1, by rw [es]; exact g2⟩, fun y' hy' => ?_, fun q hq => by rw [es]; exact ab_dsk ho ha hb q hq⟩
      cases hy'
      rw [es]
      exact hv
    · exact ab_topk _
  · refine ab_rgk (Int32.toInt_sub x y) (by omega) (by omega) (ab_dsk ho ha hb)
theorem ab_adfk {fc : ab_F} {a b : ab_I} {x y : Int32} (ho : ab_dlw o) (hn : ab_dln o) (hf : ab_cf o lv cs fc) (ha : ab_ci o lv cs a x) (hb : ab_ci o lv cs b y) : ab_ci o lv cs (ab_adf fc a b) (x + y) := by
  have h1 := ha.1
  have h2 := hb.1
  unfold ab_adf
  split
  · rename_i k j i j' e1 e2
    split
    · rename_i hr
      have hk : ab_ri cs k j = some x.toInt := ha.2.1 _ e1
      have hi : ab_li lv i = some y.toInt := hb.2.1 _ e2
      have hv : ab_kv o lv cs (5, 1000 * k + j, i) = some (x.toInt + y.toInt) := by
        show (ab_ri cs ((1000 * k + j) / 1000) ((1000 * k + j) % 1000)).bind (fun x => (ab_li lv i).map (fun z => x + z)) = _
        rw [show (1000 * k + j) / 1000 = k by omega, show (1000 * k + j) % 1000 = j by omega, hk, hi]
        rfl
      have es : (x + y).toInt = x.toInt + y.toInt := by
        rw [Int32.toInt_add, ab_bm (by omega) (by omega)]
      obtain ⟨g1, g2⟩ := ab_lkk hv hf (lo := a.1 + b.1) (hi := a.2.1 + b.2.1) (by omega) (by omega)
      refine ⟨⟨by rw [es]; exact g1, by rw [es]; exact g2⟩, fun y' hy' => ?_, fun q hq => by rw [es]; exact ab_dak ho ha hb q hq⟩
      cases hy'
      rw [es]
      exact hv
    · exact ab_mk (ab_ge _) (ab_lt' _) (ab_wak ho hn ha hb)
  · exact ab_addk ho hn ha hb
theorem ab_divk {fc : ab_F} {a b : ab_I} {x y : Int32} (ho : ab_dlw o) (hf : ab_cf o lv cs fc) (ha : ab_ci o lv cs a x) (hb : ab_ci o lv cs b y) : ab_ci o lv cs (ab_div fc a b) (x / y) := by
  have h1 := ha.1
  have h2 := hb.1
  unfold ab_div
  split
  · rename_i e
    have hy : y.toInt = b.1 := by omega
    have h0 : 0 ≤ x.toInt := by omega
    have l1 : a.1 / b.1 ≤ x.toInt.tdiv y.toInt := by
      rw [hy, Int.tdiv_eq_ediv_of_nonneg h0]; exact Int.ediv_le_ediv e.2.1 h1.1
    have l2 : x.toInt.tdiv y.toInt ≤ a.2.1 / b.1 := by
      rw [hy, Int.tdiv_eq_ediv_of_nonneg h0]; exact Int.ediv_le_ediv e.2.1 h1.2
    split
    · rename_i i j e1
      have hk' : ab_li lv i = some x.toInt := ha.2.1 _ e1
      have hv : ab_kv o lv cs (6, i, b.1.toNat) = some (x.toInt.tdiv y.toInt) := by
        show (ab_li lv i).map (fun x => x.tdiv ((b.1.toNat : Nat) : Int)) = _
        rw [hk', Int.toNat_of_nonneg (by omega), hy]
        rfl
      have hq : (x / y).toInt = x.toInt.tdiv y.toInt := by
        have q1 : 0 ≤ x.toInt.tdiv y.toInt := by
          rw [Int.tdiv_eq_ediv_of_nonneg h0]
          exact Int.ediv_nonneg h0 (by omega)
        have q2 : x.toInt.tdiv y.toInt ≤ x.toInt := by
          rw [Int.tdiv_eq_ediv_of_nonneg h0]
          exact Int.ediv_le_self _ h0
        have := ab_lt' x
        rw [Int32.toInt_div, ab_bm (by omega) (by omega)]
      obtain ⟨g1, g2⟩ := ab_lkk hv hf l1 l2
      refine ⟨⟨by rw [hq]; exact g1, by rw [hq]; exact g2⟩, fun y' hy' => ?_, fun q hq' => ?_⟩
      · cases hy'
        rw [hq]
        exact hv
      · cases hk : ab_d2 4 (ab_d1 a.2.2.2) (some b.1.toNat) with
        | none => rw [hk] at hq'; cases hq'
        | some k =>
          rw [hk] at hq'
          cases hq'
          obtain ⟨c, ec, e4⟩ := ab_d2k (y := o b.1.toNat) ho (ab_d1k ha.2.2) (fun q e => by cases e; rfl) k hk
          cases ec
          rw [hq, e4]
          show _ = x.toInt.tdiv ((b.1.toNat : Nat) : Int) + 0
          rw [Int.toNat_of_nonneg (by omega), hy]
          omega
    · exact ab_rgk (Int32.toInt_div x y) l1 l2 (fun _ h => (by cases h))
  · exact ab_topk _
theorem ab_remk {fc : ab_F} {a b : ab_I} {x y : Int32} (hf : ab_cf o lv cs fc) (ha : ab_ci o lv cs a x) (hb : ab_ci o lv cs b y) : ab_ci o lv cs (ab_rem fc a b) (x - x / y * y) := by
  have h1 := ha.1
  have h2 := hb.1
  unfold ab_rem
  split
  · rename_i e
    have hy : y.toInt = b.1 := by omega
    have hm := @ab_tm x.toInt y.toInt (by omega)
    have hq := @ab_remq x y (by omega)
    have l1 : (if 0 ≤ a.1 then 0 else 1 - b.1) ≤ x.toInt.tmod y.toInt := by
      split
      · exact hm.2.2 (by omega)
      · omega
    have l2 : x.toInt.tmod y.toInt ≤ b.1 - 1 := by omega
    split
    · rename_i i j e1
      have hk := ha.2.1 _ e1
      have hk' : ab_li lv i = some x.toInt := hk
      have hv : ab_kv o lv cs (3, i, b.1.toNat) = some (x.toInt.tmod y.toInt) := by
        show (ab_li lv i).map (fun x => x.tmod ((b.1.toNat : Nat) : Int)) = _
        rw [hk', Int.toNat_of_nonneg (by omega), hy]
        rfl
      obtain ⟨g1, g2⟩ := ab_lkk hv hf l1 l2
      refine ⟨⟨by rw [hq]; exact g1, by rw [hq]; exact g2⟩, fun y' hy' => ?_, fun _ h => (by cases h)⟩
      cases hy'
      rw [hq]
      exact hv
    · rename_i i c e1
      split
      · rename_i h9
        have hk : ab_kv o lv cs (6, i, c) = some x.toInt := ha.2.1 _ e1
        have hk' : (ab_li lv i).map (fun x => x.tdiv (c : Int)) = some x.toInt := hk
        have hv : ab_kv o lv cs (7, i, c * 100000 + b.1.toNat) = some (x.toInt.tmod y.toInt) := by
          show (ab_li lv i).map (fun x => (x.tdiv (((c * 100000 + b.1.toNat) / 100000 : Nat) : Int)).tmod (((c * 100000 + b.1.toNat) % 100000 : Nat) : Int)) = _
          rw [show (c * 100000 + b.1.toNat) / 100000 = c by omega, show (c * 100000 + b.1.toNat) % 100000 = b.1.toNat by omega, Int.toNat_of_nonneg (by omega), hy]
          cases hl : ab_li lv i with
          | none => rw [hl] at hk'; cases hk'
          | some w =>
            rw [hl] at hk'
            have hw : w.tdiv (c : Int) = x.toInt := Option.some.inj hk'
            show some ((w.tdiv (c : Int)).tmod b.1) = _
            rw [hw]
        obtain ⟨g1, g2⟩ := ab_lkk hv hf l1 l2
        refine ⟨⟨by rw [hq]; exact g1, by rw [hq]; exact g2⟩, fun y' hy' => ?_, fun _ h => (by cases h)⟩
        cases hy'
        rw [hq]
        exact hv
      · exact ab_mk (by rw [hq]; exact l1) (by rw [hq]; exact l2) (fun _ h => (by cases h))
    · exact ab_mk (by rw [hq]; exact l1) (by rw [hq]; exact l2) (fun _ h => (by cases h))
  · exact ab_topk _
theorem ab_nn (x : Int32) (h : 0 ≤ x.toInt) : x.toInt = (x.toBitVec.toNat : Int) := by
  have e : x.toInt = x.toBitVec.toInt := rfl
  rw [e] at h ⊢
  rw [BitVec.toInt_eq_toNat_cond] at h ⊢
  split
  · rfl
  · rename_i hc
    rw [if_neg hc] at h
    have := x.toBitVec.isLt
    omega
theorem ab_pos (x : Int32) {n : Nat} (h : x.toBitVec.toNat ≤ n) (hn : n < 2147483648) : 0 ≤ x.toInt ∧ x.toInt ≤ (n : Int) := by
  have e : x.toInt = x.toBitVec.toInt := rfl
  rw [e, BitVec.toInt_eq_toNat_cond, if_pos (by omega)]
  omega
theorem ab_andn (x y : Int32) : (x &&& y).toBitVec.toNat = x.toBitVec.toNat &&& y.toBitVec.toNat := by
  rw [Int32.toBitVec_and, BitVec.toNat_and]
theorem ab_andk {a b : ab_I} {x y : Int32} (ha : ab_ci o lv cs a x) (hb : ab_ci o lv cs b y) : ab_ci o lv cs (ab_and a b) (x &&& y) := by
  have h1 := ha.1
  have h2 := hb.1
  have hlx := ab_lt' x
  have hly := ab_lt' y
  unfold ab_and
  split
  · have hy := ab_nn y (by omega)
    have := ab_pos (x &&& y) (n := y.toBitVec.toNat) (by rw [ab_andn]; exact Nat.and_le_right) (by omega)
    exact ab_mk this.1 (by omega) (fun _ h => (by cases h))
  · split
    · have hy := ab_nn x (by omega)
      have := ab_pos (x &&& y) (n := x.toBitVec.toNat) (by rw [ab_andn]; exact Nat.and_le_left) (by omega)
      exact ab_mk this.1 (by omega) (fun _ h => (by cases h))
    · exact ab_topk _
theorem ab_01 {x : Int32} (h1 : 0 ≤ x.toInt) (h2 : x.toInt ≤ 1) : x = 0 ∨ x = 1 := by
  rcases (by omega : x.toInt = 0 ∨ x.toInt = 1) with h | h
  · exact Or.inl (Int32.toInt_inj.mp (by rw [h]; decide))
  · exact Or.inr (Int32.toInt_inj.mp (by rw [h]; decide))
theorem ab_ork {a b : ab_I} {x y : Int32} (ha : ab_ci o lv cs a x) (hb : ab_ci o lv cs b y) : ab_ci o lv cs (ab_or a b) (x ||| y) := by
  have h1 := ha.1
  have h2 := hb.1
  unfold ab_or
  split
  · rename_i e
    have hh : 0 ≤ (x ||| y).toInt ∧ (x ||| y).toInt ≤ 1 := by
      rcases ab_01 (x := x) (by omega) (by omega) with rfl | rfl <;> rcases ab_01 (x := y) (by omega) (by omega) with rfl | rfl <;> decide
    exact ab_mk hh.1 hh.2 (fun _ h => (by cases h))
  · exact ab_topk _
theorem ab_mink {a b : ab_I} {x y : Int32} (ha : ab_ci o lv cs a x) (hb : ab_ci o lv cs b y) : ab_ci o lv cs (ab_min a b) (if y < x then y else x) := by
  have h1 := ha.1
  have h2 := hb.1
  unfold ab_min
  split
  · rename_i h
    rw [Int32.lt_iff_toInt_lt] at h
    exact ab_mk (by omega) (by omega) (fun _ h => (by cases h))
  · rename_i h
    rw [Int32.lt_iff_toInt_lt] at h
    exact ab_mk (by omega) (by omega) (fun _ h => (by cases h))
theorem ab_maxk {a b : ab_I} {x y : Int32} (ha : ab_ci o lv cs a x) (hb : ab_ci o lv cs b y) : ab_ci o lv cs (ab_max a b) (if x < y then y else x) := by
  have h1 := ha.1
  have h2 := hb.1
  unfold ab_max
  split
  · rename_i h
    rw [Int32.lt_iff_toInt_lt] at h
    exact ab_mk (by omega) (by omega) (fun _ h => (by cases h))
  · rename_i h
    rw [Int32.lt_iff_toInt_lt] at h
    exact ab_mk (by omega) (by omega) (fun _ h => (by cases h))
/-! shapes of the stack -/
theorem ab_i1.at {as : List ab_V} {k : ab_I → List ab_V → Bool} {st : ex_V} (h : ab_i1 as k = true) (g : ab_cst o lv cs as st) : ∃ a x r t, st = .int x :: t ∧ ab_ci o lv cs a x ∧ ab_cst o lv cs r t ∧ k a r = true := by
  unfold ab_i1 at h
  split at h
  · obtain ⟨v, t, rfl, ⟨x, rfl, hx⟩, ht⟩ := g
    exact ⟨_, x, _, t, rfl, hx, ht, h⟩
  · cases h
theorem ab_i2.at {as : List ab_V} {k : ab_I → ab_I → List ab_V → Bool} {st : ex_V} (h : ab_i2 as k = true) (g : ab_cst o lv cs as st) : ∃ a b x y r t, st = .int y :: .int x :: t ∧ ab_ci o lv cs a x ∧ ab_ci o lv cs b y ∧ ab_cst o lv cs r t ∧ k a b r = true := by
  unfold ab_i2 at h
  split at h
  · obtain ⟨v, t, rfl, ⟨y, rfl, hy⟩, v2, t2, rfl, ⟨x, rfl, hx⟩, ht⟩ := g
    exact ⟨_, _, x, y, _, t2, rfl, hx, hy, ht, h⟩
  · cases h
theorem ab_l1.at {as : List ab_V} {k : Int × Int × Option Nat → List ab_V → Bool} {st : ex_V} (h : ab_l1 as k = true) (g : ab_cst o lv cs as st) : ∃ a x r t, st = .long x :: t ∧ ((a.1 ≤ x.toInt ∧ x.toInt ≤ a.2.1) ∧ ∀ q, a.2.2 = some q → x.toInt = o q) ∧ ab_cst o lv cs r t ∧ k a r = true := by
  unfold ab_l1 at h
  split at h
  · obtain ⟨v, t, rfl, ⟨x, rfl, hx⟩, ht⟩ := g
    exact ⟨_, x, _, t, rfl, hx, ht, h⟩
  · cases h
theorem ab_l2.at {as : List ab_V} {k : Int × Int × Option Nat → Int × Int × Option Nat → List ab_V → Bool} {st : ex_V} (h : ab_l2 as k = true) (g : ab_cst o lv cs as st) : ∃ a b x y r t, st = .long y :: .long x :: t ∧ ((a.1 ≤ x.toInt ∧ x.toInt ≤ a.2.1) ∧ ∀ q, a.2.2 = some q → x.toInt = o q) ∧ ((b.1 ≤ y.toInt ∧ y.toInt ≤ b.2.1) ∧ ∀ q, b.2.2 = some q → y.toInt = o q) ∧ ab_cst o lv cs r t ∧ k a b r = true := by
  unfold ab_l2 at h
  split at h
  · obtain ⟨v, t, rfl, ⟨y, rfl, hy⟩, v2, t2, rfl, ⟨x, rfl, hx⟩, ht⟩ := g
    exact ⟨_, _, x, y, _, t2, rfl, hx, hy, ht, h⟩
  · cases h
theorem ab_r1.at {as : List ab_V} {k : Nat → List ab_V → Bool} {st : ex_V} (h : ab_r1 as k = true) (g : ab_cst o lv cs as st) : ∃ a r t, st = .ref a :: t ∧ ab_cst o lv cs r t ∧ k a r = true := by
  unfold ab_r1 at h
  split at h
  · obtain ⟨v, t, rfl, rfl, ht⟩ := g
    exact ⟨_, _, t, rfl, ht, h⟩
  · cases h
theorem ab_ir.at {as : List ab_V} {k : ab_I → Nat → List ab_V → Bool} {st : ex_V} (h : ab_ir as k = true) (g : ab_cst o lv cs as st) : ∃ b y a r t, st = .int y :: .ref a :: t ∧ ab_ci o lv cs b y ∧ ab_cst o lv cs r t ∧ k b a r = true := by
  unfold ab_ir at h
  split at h
  · obtain ⟨v, t, rfl, ⟨y, rfl, hy⟩, v2, t2, rfl, rfl, ht⟩ := g
    exact ⟨_, y, _, _, t2, rfl, hy, ht, h⟩
  · cases h
theorem ab_iir.at {as : List ab_V} {k : ab_I → ab_I → Nat → List ab_V → Bool} {st : ex_V} (h : ab_iir as k = true) (g : ab_cst o lv cs as st) : ∃ c z b y a r t, st = .int z :: .int y :: .ref a :: t ∧ ab_ci o lv cs c z ∧ ab_ci o lv cs b y ∧ ab_cst o lv cs r t ∧ k c b a r = true := by
  unfold ab_iir at h
  split at h
  · obtain ⟨v, t, rfl, ⟨z, rfl, hz⟩, v1, t1, rfl, ⟨y, rfl, hy⟩, v2, t2, rfl, rfl, ht⟩ := g
    exact ⟨_, z, _, y, _, _, t2, rfl, hz, hy, ht, h⟩
  · cases h
theorem ab_vr.at {as : List ab_V} {k : ab_V → Nat → List ab_V → Bool} {st : ex_V} (h : ab_vr as k = true) (g : ab_cst o lv cs as st) : ∃ v w a r t, st = w :: .ref a :: t ∧ ab_cv o lv cs v w ∧ ab_cst o lv cs r t ∧ k v a r = true := by
  unfold ab_vr at h
  split at h
  · obtain ⟨w, t1, rfl, hw, w2, t, rfl, rfl, ht⟩ := g
    exact ⟨_, w, _, _, t, rfl, hw, ht, h⟩
  · cases h
theorem ab_c5.at {as : List ab_V} {k : ab_I → ab_I → Nat → ab_I → Nat → List ab_V → Bool} {st : ex_V} (h : ab_c5 as k = true) (g : ab_cst o lv cs as st) : ∃ n n' d d' a s s' b r t, st = .int n' :: .int d' :: .ref a :: .int s' :: .ref b :: t ∧ ab_ci o lv cs n n' ∧ ab_ci o lv cs d d' ∧ ab_ci o lv cs s s' ∧ ab_cst o lv cs r t ∧ k n d a s b r = true := by
  unfold ab_c5 at h
  split at h
  · obtain ⟨v1, t1, rfl, ⟨n', rfl, hn'⟩, v2, t2, rfl, ⟨d', rfl, hd'⟩, v3, t3, rfl, rfl, v4, t4, rfl, ⟨s', rfl, hs'⟩, v5, t, rfl, rfl, ht⟩ := g
    exact ⟨_, n', _, d', _, _, s', _, _, t, rfl, hn', hd', hs', ht, h⟩
  · cases h
theorem ab_x1.at {as : List ab_V} {k : ab_I → Bool} {st : ex_V} (h : ab_x1 as k = true) (g : ab_cst o lv cs as st) : ∃ a x, st = [.int x] ∧ ab_ci o lv cs a x ∧ k a = true := by
  unfold ab_x1 at h
  split at h
  · obtain ⟨v, t, rfl, ⟨x, rfl, hx⟩, rfl⟩ := g
    exact ⟨_, x, rfl, hx, h⟩
  · cases h
theorem ab_rokk {ret : Option FieldType} {a : ab_I} {x : Int32} (h : ab_rok ret a = true) (hx : ab_ci o lv cs a x) : ex_ret ret x := by
  have hy1 := hx.1
  unfold ab_rok at h
  unfold ex_ret
  split at h
  · trivial
  · have := of_decide_eq_true h
    exact ab_01 (by omega) (by omega)
  · cases h
theorem ab_cat {a : ab_V} {v : Value} (h : ab_cv o lv cs a v) : v.category = ab_c a := by
  unfold ab_cv at h
  split at h
  · subst h; rfl
  · obtain ⟨x, rfl, -⟩ := h; rfl
  · obtain ⟨x, rfl, -⟩ := h; rfl
theorem ab_v1.at {as : List ab_V} {k : ab_V → List ab_V → Bool} {st : ex_V} (h : ab_v1 as k = true) (g : ab_cst o lv cs as st) : ∃ a v r t, st = v :: t ∧ v.category = 1 ∧ ab_cv o lv cs a v ∧ ab_cst o lv cs r t ∧ k a r = true := by
  unfold ab_v1 at h
  split at h
  · obtain ⟨v, t, rfl, hv, ht⟩ := g
    simp only [Bool.and_eq_true, decide_eq_true_eq] at h
    exact ⟨_, v, _, t, rfl, by rw [ab_cat hv]; exact h.1, hv, ht, h.2⟩
  · cases h
theorem ab_v2.at {as : List ab_V} {k : ab_V → ab_V → List ab_V → Bool} {st : ex_V} (h : ab_v2 as k = true) (g : ab_cst o lv cs as st) : ∃ a b v w r t, st = v :: w :: t ∧ v.category = 1 ∧ w.category = 1 ∧ ab_cv o lv cs a v ∧ ab_cv o lv cs b w ∧ ab_cst o lv cs r t ∧ k a b r = true := by
  unfold ab_v2 at h
  split at h
  · obtain ⟨v, t, rfl, hv, w, t2, rfl, hw, ht⟩ := g
    simp only [Bool.and_eq_true, decide_eq_true_eq] at h
    exact ⟨_, _, v, w, _, t2, rfl, by rw [ab_cat hv]; exact h.1, by rw [ab_cat hw]; exact h.2.1, hv, hw, ht, h.2.2⟩
  · cases h
theorem ab_o.at {α : Type} {x : Option α} {f : α → Bool} (h : ab_o x f = true) : ∃ a, x = some a ∧ f a = true := by
  cases x with
  | none => cases h
  | some a => exact ⟨a, rfl, h⟩
theorem ab_gi.at {al : ab_L} {k : Nat} {f : ab_I → Bool} (h : ab_gi al k f = true) (g : ab_cl o al lv) : ∃ a x, al[k]? = some (some (.inr (.inl a))) ∧ lv[k]? = some (some (.int x)) ∧ (a.1 ≤ x.toInt ∧ x.toInt ≤ a.2.1) ∧ (∀ q, a.2.2.2 = some q → x.toInt = o q.1 + q.2) ∧ f a = true := by
  unfold ab_gi at h
  split at h
  · rename_i a e
    obtain ⟨v, hv, x, rfl, h1, h2⟩ := g.2 _ _ e
    exact ⟨a, x, e, hv, h1, h2, h⟩
  · cases h
theorem ab_gl.at {al : ab_L} {k : Nat} {f : Int × Int × Option Nat → Bool} (h : ab_gl al k f = true) (g : ab_cl o al lv) : ∃ a x, lv[k]? = some (some (.long x)) ∧ ((a.1 ≤ x.toInt ∧ x.toInt ≤ a.2.1) ∧ ∀ q, a.2.2 = some q → x.toInt = o q) ∧ f a = true := by
  unfold ab_gl at h
  split at h
  · rename_i a e
    obtain ⟨v, hv, x, rfl, h1⟩ := g.2 _ _ e
    exact ⟨a, x, hv, h1, h⟩
  · cases h
theorem ab_gr.at {al : ab_L} {k : Nat} {f : Nat → Bool} (h : ab_gr al k f = true) (g : ab_cl o al lv) : ∃ a, lv[k]? = some (some (.ref a)) ∧ f a = true := by
  unfold ab_gr at h
  split at h
  · rename_i a e
    obtain ⟨v, hv, rfl⟩ := g.2 _ _ e
    exact ⟨a, hv, h⟩
  · cases h
theorem ab_to.at {pc : Nat} {off : Int} {k : Nat → Bool} (h : ab_to pc off k = true) : 0 ≤ (pc : Int) + off ∧ k ((pc : Int) + off).toNat = true := by
  unfold ab_to at h
  simp only [Bool.and_eq_true, decide_eq_true_eq] at h
  exact h
/-! what stays when something is written -/
theorem ab_kpk {p : ab_Y → Bool} (hp : ∀ y z, p y = true → ab_kv o lv cs y = some z → ab_kv o lv' cs' y = some z) {a : ab_V} {v : Value} (h : ab_cv o lv cs a v) : ab_cv o lv' cs' (ab_kp p a) v := by
  unfold ab_kp
  split
  · obtain ⟨x, rfl, h1, h2, h3⟩ := h
    split
    · rename_i hy
      exact ⟨x, rfl, h1, fun y' hy' => by cases hy'; exact hp _ _ hy (h2 _ rfl), h3⟩
    · exact ⟨x, rfl, h1, fun _ h => (by cases h), h3⟩
  · rename_i b hb
    unfold ab_cv at h ⊢
    split at h
    · exact h
    · rename_i i
      obtain ⟨x, rfl, h1, h2, h3⟩ := h
      refine ⟨x, rfl, h1, fun y hy => ?_, h3⟩
      obtain ⟨lo, hi, og, dl⟩ := i
      cases hy
      exact absurd rfl (hb lo hi y dl)
    · exact h
theorem ab_kst {p : ab_Y → Bool} (hp : ∀ y z, p y = true → ab_kv o lv cs y = some z → ab_kv o lv' cs' y = some z) : ∀ {as : List ab_V} {st : ex_V}, ab_cst o lv cs as st → ab_cst o lv' cs' (as.map (ab_kp p)) st
  | [], _, h => h
  | a :: r, _, ⟨v, t, e, h1, h2⟩ => ⟨v, t, e, ab_kpk hp h1, ab_kst hp h2⟩
theorem ab_kcf {p : ab_Y → Bool} (hp : ∀ y z, p y = true → ab_kv o lv cs y = some z → ab_kv o lv' cs' y = some z) {fc : ab_F} (h : ab_cf o lv cs fc) : ab_cf o lv' cs' (fc.filter (fun q => p q.1)) := by
  intro q hq
  obtain ⟨h1, h2⟩ := List.mem_filter.mp hq
  obtain ⟨x, hx, h3⟩ := h q h1
  exact ⟨x, hp _ _ h2 hx, h3⟩
theorem ab_lis {k i : Nat} {v : Option Value} (h : i ≠ k) : ab_li (lv.set k v) i = ab_li lv i := by
  unfold ab_li
  rw [List.getElem?_set_ne (Ne.symm h)]
theorem ab_nlk {k : Nat} {v : Option Value} : ∀ y z, ab_nl k y = true → ab_kv o lv cs y = some z → ab_kv o (lv.set k v) cs y = some z := by
  intro y z h hz
  obtain ⟨a, b, c⟩ := y
  match a with
  | 0 =>
    have hb : b ≠ k := by simpa [ab_nl] using h
    show ab_li (lv.set k v) b = some z
    rw [ab_lis hb]; exact hz
  | 1 => exact hz
  | 2 =>
    have hb : c ≠ k := by simpa [ab_nl] using h
    show (ab_li (lv.set k v) c).bind _ = some z
    rw [ab_lis hb]; exact hz
  | 3 =>
    have hb : b ≠ k := by simpa [ab_nl] using h
    show (ab_li (lv.set k v) b).map _ = some z
    rw [ab_lis hb]; exact hz
  | 4 =>
    have hb : c ≠ k := by simpa [ab_nl] using h
    show (ab_ri cs (b / 1000) (b % 1000)).bind (fun x => (ab_li (lv.set k v) c).map (fun z => x - z)) = some z
    rw [ab_lis hb]; exact hz
  | 5 =>
    have hb : c ≠ k := by simpa [ab_nl] using h
    show (ab_ri cs (b / 1000) (b % 1000)).bind (fun x => (ab_li (lv.set k v) c).map (fun z => x + z)) = some z
    rw [ab_lis hb]; exact hz
  | 6 =>
    have hb : b ≠ k := by simpa [ab_nl] using h
    show (ab_li (lv.set k v) b).map _ = some z
    rw [ab_lis hb]; exact hz
  | 7 =>
    have hb : b ≠ k := by simpa [ab_nl] using h
    show (ab_li (lv.set k v) b).map _ = some z
    rw [ab_lis hb]; exact hz
  | 8 => exact hz
  | 9 => exact hz
  | n + 10 => cases hz
theorem ab_nwk {V : ab_W} (hf : ab_fr V cs cs') : ∀ y z, ab_nw V y = true → ab_kv o lv cs y = some z → ab_kv o lv cs' y = some z := by
  intro y z h hz
  obtain ⟨a, b, c⟩ := y
  match a with
  | 0 => exact hz
  | 1 =>
    have hb : ab_cov V b c = false := by simpa [ab_nw] using h
    show ab_ri cs' b c = some z
    unfold ab_ri
    rw [hf b c hb]
    exact hz
  | 2 =>
    have hb : ∀ j, ab_cov V b j = false := by
      intro j
      have h' : V.all (fun w => w.1 != b) = true := h
      unfold ab_cov
      rw [List.any_eq_false]
      intro w hw
      have := List.all_eq_true.mp h' w hw
      simp at this
      simp [this]
    show (ab_li lv c).bind (fun x => if 0 ≤ x then ab_ri cs' b x.toNat else none) = some z
    have e : (fun (x : Int) => if 0 ≤ x then ab_ri cs' b x.toNat else none) = (fun (x : Int) => if 0 ≤ x then ab_ri cs b x.toNat else none) := by
      funext x
      unfold ab_ri
      rw [hf b _ (hb _)]
    rw [e]
    exact hz
  | 3 => exact hz
  | 4 =>
    have hb : ab_cov V (b / 1000) (b % 1000) = false := by simpa [ab_nw] using h
    show (ab_ri cs' (b / 1000) (b % 1000)).bind (fun x => (ab_li lv c).map (fun z => x - z)) = some z
    unfold ab_ri
    rw [hf _ _ hb]
    exact hz
  | 5 =>
    have hb : ab_cov V (b / 1000) (b % 1000) = false := by simpa [ab_nw] using h
    show (ab_ri cs' (b / 1000) (b % 1000)).bind (fun x => (ab_li lv c).map (fun z => x + z)) = some z
    unfold ab_ri
    rw [hf _ _ hb]
    exact hz
  | 6 => exact hz
  | 7 => exact hz
  | 8 => exact hz
  | 9 => exact hz
  | n + 10 => cases hz
theorem ab_fr.tr {V : ab_W} {a b c : ex_C} (h1 : ab_fr V a b) (h2 : ab_fr V b c) : ab_fr V a c := fun k j h => (h2 k j h).trans (h1 k j h)
theorem ab_sub1k {w : Nat × Option Nat} {V : ab_W} (h : ab_sub1 w V = true) {k j : Nat} (hc : ab_cov [w] k j = true) : ab_cov V k j = true := by
  unfold ab_sub1 at h
  unfold ab_cov at hc ⊢
  obtain ⟨w', hw, h2⟩ := List.any_eq_true.mp h
  refine List.any_eq_true.mpr ⟨w', hw, ?_⟩
  simp only [List.any_cons, List.any_nil, Bool.or_false, Bool.and_eq_true, Bool.or_eq_true, beq_iff_eq] at hc h2 ⊢
  refine ⟨h2.1.trans hc.1, ?_⟩
  rcases h2.2 with e | e
  · exact Or.inl e
  · rw [e]; exact hc.2
theorem ab_fr.sub {V V' : ab_W} {a b : ex_C} (h : ab_fr V a b) (hs : V.all (fun w => ab_sub1 w V') = true) : ab_fr V' a b := by
  intro k j hc
  refine h k j ?_
  cases hv : ab_cov V k j with
  | false => rfl
  | true =>
    obtain ⟨w, hw, h2⟩ := List.any_eq_true.mp hv
    have := ab_sub1k (List.all_eq_true.mp hs w hw) (k := k) (j := j) (by unfold ab_cov; simpa using h2)
    rw [this] at hc
    cases hc
theorem ab_fr.one {w : Nat × Option Nat} {a b : ex_C} (h : ab_fr [w] a b) (hs : ab_sub1 w W = true) : ab_fr W a b := h.sub (by simp [hs])
/-! variables -/
theorem ab_sok {al : ab_L} {k : Nat} (h : ab_so al k = true) (g : ab_cl o al lv) : ex_so lv k := by
  unfold ab_so at h
  simp only [Bool.and_eq_true, decide_eq_true_eq] at h
  refine ⟨by rw [← g.1]; exact h.1, ?_⟩
  match k, h with
  | 0, _ => trivial
  | j + 1, h =>
    have h2 := h.2
    dsimp only at h2 ⊢
    have hlt : j < al.length := by omega
    obtain ⟨a, ha⟩ : ∃ a, al[j]? = some a := ⟨al[j], List.getElem?_eq_getElem hlt⟩
    obtain ⟨v, hv, hc⟩ := g.2 j a ha
    rw [hv]
    rw [ha] at h2
    cases v with
    | none => trivial
    | some w =>
      show w.category = 1
      unfold ab_c1 at hc
      split at hc
      · exact hc w rfl
      · cases hc; rfl
      · obtain ⟨x, e, -⟩ := hc; cases e; rfl
      · cases h2
theorem ab_clset {al : ab_L} {k : Nat} {a : Option ab_V} {v : Option Value} (g : ab_cl o al lv) (h : ab_c1 o a v) : ab_cl o (al.set k a) (lv.set k v) := by
  refine ⟨by rw [List.length_set, List.length_set]; exact g.1, fun i b hb => ?_⟩
  by_cases hik : k = i
  · subst hik
    by_cases hl : k < al.length
    · rw [List.getElem?_set_self hl] at hb
      cases hb
      exact ⟨v, List.getElem?_set_self (by rw [← g.1]; exact hl), h⟩
    · rw [List.getElem?_eq_none (by rw [List.length_set]; omega)] at hb
      cases hb
  · rw [List.getElem?_set_ne hik] at hb ⊢
    exact g.2 i b hb
theorem ab_clset1 {al : ab_L} {k : Nat} {a : Option ab_V} {v : Option Value} (g : ab_cl o al lv) (hv : lv[k]? = some v) (h : ab_c1 o a v) : ab_cl o (al.set k a) lv := by
  have := ab_clset (k := k) g h
  have e : lv.set k v = lv := by
    apply List.ext_getElem?
    intro i
    rw [List.getElem?_set]
    split
    · rename_i hi
      subst hi
      split
      · exact hv.symm
      · rename_i hn
        rw [List.getElem?_eq_none (by omega)]
    · rfl
  rw [e] at this
  exact this
theorem ab_a8k {fc : ab_F} {dl : Option (Nat × Int)} {lo hi z : Int} (hf : ab_cf o lv cs fc) (hd : ∀ d, dl = some d → z = o d.1 + d.2) (h1 : lo ≤ z) (h2 : z ≤ hi) : ab_cf o lv cs (ab_a8 dl lo hi fc) := by
  unfold ab_a8
  split
  · rename_i d
    have := hd d rfl
    split
    · intro q hq
      rcases List.mem_cons.mp hq with rfl | hq
      · exact ⟨o d.1, rfl, (by dsimp only; omega), (by dsimp only; omega), fun _ h => (by cases h)⟩
      · exact hf q hq
    · exact hf
  · exact hf
theorem ab_rfk {al : ab_L} {fc : ab_F} {og : Option ab_Y} {dl : Option (Nat × Int)} {lo hi z : Int} {k : ab_L → ab_F → Bool} (h : ab_rf al fc og dl lo hi k = true) (h1 : lo ≤ z) (h2 : z ≤ hi) (hy : ∀ y, og = some y → ab_kv o lv cs y = some z) (hdl : ∀ d, dl = some d → z = o d.1 + d.2) (g : ab_cl o al lv) (hf : ab_cf o lv cs fc) : ∃ al' fc', k al' fc' = true ∧ ab_cl o al' lv ∧ ab_cf o lv cs fc' := by
  have hf8 := ab_a8k hf hdl h1 h2
  unfold ab_rf at h
  rw [if_neg (by omega)] at h
  split at h
  · exact ⟨al, _, h, g, hf8⟩
  · rename_i i j
    have hi' : ab_li lv i = some z := hy _ rfl
    split at h
    · rename_i l hh gg d e
      obtain ⟨v, hv, x, rfl, h3, h4⟩ := g.2 _ _ e
      have hz : x.toInt = z := by
        unfold ab_li at hi'
        rw [hv] at hi'
        exact Option.some.inj hi'
      have h3' : l ≤ x.toInt ∧ x.toInt ≤ hh := h3
      rw [if_neg (by omega)] at h
      exact ⟨_, _, h, ab_clset1 g hv ⟨x, rfl, ⟨by show max l lo ≤ _; omega, by show _ ≤ min hh hi; omega⟩, h4⟩, hf8⟩
    · exact ⟨al, _, h, g, hf8⟩
  · rename_i y hne
    refine ⟨al, _, h, g, fun q hq => ?_⟩
    rcases List.mem_cons.mp hq with rfl | hq
    · exact ⟨z, hy _ rfl, h1, h2, ab_lkdk (hy _ rfl) hf⟩
    · exact hf8 q hq
def ab_rl (c : Nat) (x y : Int) : Prop := match c with
  | 0 => x = y
  | 1 => x ≠ y
  | 2 => x < y
  | 3 => y ≤ x
  | 4 => y < x
  | _ => x ≤ y
theorem ab_cmpk {c : Nat} {a b e f x y : Int} (h : ab_rl c x y) (h1 : a ≤ x) (h2 : x ≤ b) (h3 : e ≤ y) (h4 : y ≤ f) : ((ab_cmp c a b e f).1.1 ≤ x ∧ x ≤ (ab_cmp c a b e f).1.2) ∧ ((ab_cmp c a b e f).2.1 ≤ y ∧ y ≤ (ab_cmp c a b e f).2.2) := by
  match c, h with
  | 0, h => simp only [ab_rl] at h; simp only [ab_cmp]; omega
  | 1, h =>
    simp only [ab_rl] at h
    simp only [ab_cmp]
    refine ⟨⟨?_, ?_⟩, ⟨?_, ?_⟩⟩ <;> split <;> omega
  | 2, h => simp only [ab_rl] at h; simp only [ab_cmp]; omega
  | 3, h => simp only [ab_rl] at h; simp only [ab_cmp]; omega
  | 4, h => simp only [ab_rl] at h; simp only [ab_cmp]; omega
  | n + 5, h => simp only [ab_rl] at h; simp only [ab_cmp]; omega
theorem ab_b' {a b : Bool} (h : (a && b) = true) : a = true ∧ b = true := by
  simp only [Bool.and_eq_true] at h
  exact h
theorem ab_a9k {fc : ab_F} {c : Nat} {p q : Option (Nat × Int)} {x y : Int32} (hf : ab_cf o lv cs fc) (hc : ab_rl c x.toInt y.toInt) (hp : ∀ d, p = some d → x.toInt = o d.1 + d.2) (hq : ∀ d, q = some d → y.toInt = o d.1 + d.2) : ab_cf o lv cs (ab_a9 c p q fc) := by
  unfold ab_a9
  split
  · rename_i d e b eb
    have h1 := hp d rfl
    have h2 := hq e rfl
    have b1 := ab_ge x
    have b2 := ab_lt' x
    have b3 := ab_ge y
    have b4 := ab_lt' y
    intro w hw
    rcases List.mem_cons.mp hw with rfl | hw
    · refine ⟨o d.1 - o e.1, rfl, ?_, ?_, fun _ h => (by cases h)⟩
      · dsimp only
        match c, hc, eb with
        | 0, hc, eb => simp only [ab_rl] at hc; cases eb; dsimp only; omega
        | 2, hc, eb => simp only [ab_rl] at hc; cases eb; dsimp only; omega
        | 3, hc, eb => simp only [ab_rl] at hc; cases eb; dsimp only; omega
        | 4, hc, eb => simp only [ab_rl] at hc; cases eb; dsimp only; omega
        | n + 5, hc, eb => simp only [ab_rl] at hc; cases eb; dsimp only; omega
      · dsimp only
        match c, hc, eb with
        | 0, hc, eb => simp only [ab_rl] at hc; cases eb; dsimp only; omega
        | 2, hc, eb => simp only [ab_rl] at hc; cases eb; dsimp only; omega
        | 3, hc, eb => simp only [ab_rl] at hc; cases eb; dsimp only; omega
        | 4, hc, eb => simp only [ab_rl] at hc; cases eb; dsimp only; omega
        | n + 5, hc, eb => simp only [ab_rl] at hc; cases eb; dsimp only; omega
    · exact hf w hw
  · exact hf
theorem ab_brk {c : Nat} {a b : ab_I} {x y : Int32} {al : ab_L} {fc : ab_F} {k : ab_L → ab_F → Bool} (h : ab_br c a b al fc k = true) (hc : ab_rl c x.toInt y.toInt) (ha : ab_ci o lv cs a x) (hb : ab_ci o lv cs b y) (g : ab_cl o al lv) (hf : ab_cf o lv cs fc) : ∃ al' fc', k al' fc' = true ∧ ab_cl o al' lv ∧ ab_cf o lv cs fc' := by
  have hh := ab_cmpk hc ha.1.1 ha.1.2 hb.1.1 hb.1.2
  unfold ab_br at h
  obtain ⟨al1, fc1, h1, g1, f1⟩ := ab_rfk h hh.1.1 hh.1.2 ha.2.1 ha.2.2 g hf
  obtain ⟨al2, fc2, h2, g2, f2⟩ := ab_rfk h1 hh.2.1 hh.2.2 hb.2.1 hb.2.2 g1 f1
  unfold ab_k9 at h2
  split at h2
  · rename_i hq
    obtain ⟨h3, h4⟩ := ab_b' h2
    have hne : x.toInt ≠ y.toInt := by
      have := hc
      rw [hq.1] at this
      exact this
    rcases Int.lt_or_gt_of_ne hne with hl | hl
    · exact ⟨_, _, h3, g2, ab_a9k f2 (c := 2) hl ha.2.2 hb.2.2⟩
    · exact ⟨_, _, h4, g2, ab_a9k f2 (c := 4) hl ha.2.2 hb.2.2⟩
  · exact ⟨_, _, h2, g2, ab_a9k f2 hc ha.2.2 hb.2.2⟩
end ABS

section ABU
variable {hd : List ab_H} {xs : List (Nat × Int × Int × List Int)} {xt : ex_xt} {W : ab_W} {o : Nat → Int} {cs0 : ex_C} {cx : ex_K} {cm : Nat → Option (Nat × Option Nat × List ab_C)} {ret : Option FieldType} {E : Option ab_I → ab_L → ab_F → Bool} {Q : ex_Q}
theorem ab_G.pu {al : ab_L} {fc : ab_F} {lv : ex_L} {cs : ex_C} {as' r : List ab_V} {st' t : ex_V} (g : ab_G hd W o cs0 al as' fc lv st' cs) (h : ab_cst o lv cs r t) : ab_G hd W o cs0 al r fc lv t cs := ⟨g.1, h, g.2.2⟩
theorem ab_pi {lv : ex_L} {cs : ex_C} {r : List ab_V} {t : ex_V} {a : ab_I} {x : Int32} (h : ab_ci o lv cs a x) (ht : ab_cst o lv cs r t) : ab_cst o lv cs (ab_n a :: r) (.int x :: t) := ⟨_, _, rfl, ⟨x, rfl, h⟩, ht⟩
theorem ab_pl {lv : ex_L} {cs : ex_C} {r : List ab_V} {t : ex_V} {a : Int × Int × Option Nat} {x : Int64} (h : (a.1 ≤ x.toInt ∧ x.toInt ≤ a.2.1) ∧ ∀ q, a.2.2 = some q → x.toInt = o q) (ht : ab_cst o lv cs r t) : ab_cst o lv cs (.inr (.inr a) :: r) (.long x :: t) := ⟨_, _, rfl, ⟨x, rfl, h⟩, ht⟩
theorem ab_pt {lv : ex_L} {cs : ex_C} {r : List ab_V} {t : ex_V} {d : Option Nat} (x : Int64) (hd : ∀ q, d = some q → x.toInt = o q) (ht : ab_cst o lv cs r t) : ab_cst o lv cs (ab_lt d :: r) (.long x :: t) := ab_pl ⟨⟨ab_lge x, ab_llt x⟩, hd⟩ ht
theorem ab_d2l {t : Nat} {a b : Int × Int × Option Nat} {x y z : Int64} (ho : ab_dlw o) (ha : ∀ q, a.2.2 = some q → x.toInt = o q) (hb : ∀ q, b.2.2 = some q → y.toInt = o q) (hz : ∀ c, z.toInt = ab_dg t x.toInt y.toInt c) : ∀ q, ab_d2 t a.2.2 b.2.2 = some q → z.toInt = o q := by
  intro q hq
  obtain ⟨c, -, e⟩ := ab_d2k ho ha hb q hq
  rw [e]
  exact hz c
theorem ab_pr {lv : ex_L} {cs : ex_C} {r : List ab_V} {t : ex_V} {k : Nat} (ht : ab_cst o lv cs r t) : ab_cst o lv cs (.inl k :: r) (.ref k :: t) := ⟨_, _, rfl, rfl, ht⟩
theorem ab_il {lv : ex_L} {cs : ex_C} {k : Nat} {a : ab_I} {x : Int32} (hv : lv[k]? = some (some (.int x))) (h1 : a.1 ≤ x.toInt ∧ x.toInt ≤ a.2.1) (h2 : ∀ q, a.2.2.2 = some q → x.toInt = o q.1 + q.2) : ab_ci o lv cs (a.1, a.2.1, some (0, k, 0), a.2.2.2) x := by
  refine ⟨h1, fun y hy => ?_, h2⟩
  cases hy
  show ab_li lv k = some x.toInt
  unfold ab_li
  rw [hv]
theorem ab_ogi {lv : ex_L} {i : Nat} {k : Int32 → Prop} {x : Int32} (h : lv[i]? = some (some (.int x))) (hk : k x) : ex_gi lv i k := by
  unfold ex_gi
  rw [h]
  exact hk
theorem ab_ogl {lv : ex_L} {i : Nat} {k : Int64 → Prop} {x : Int64} (h : lv[i]? = some (some (.long x))) (hk : k x) : ex_gl lv i k := by
  unfold ex_gl
  rw [h]
  exact hk
theorem ab_ogr {lv : ex_L} {i : Nat} {k : Nat → Prop} {x : Nat} (h : lv[i]? = some (some (.ref x))) (hk : k x) : ex_gr lv i k := by
  unfold ex_gr
  rw [h]
  exact hk
theorem ab_ooi {α : Type} {x : Option α} {a : α} {k : α → Prop} (h : x = some a) (hk : k a) : ex_o x k := by
  subst h
  exact hk
theorem ab_oob {cs : ex_C} {a ci : Nat} {k : List Value → Prop} {fs : List Value} (h : cs[a]? = some (.inr (ci, fs))) (hk : k fs) : ex_ob cs a ci k := by
  unfold ex_ob
  rw [h]
  exact ⟨rfl, hk⟩
theorem ab_oar {cs : ex_C} {a t n : Nat} {k : Nat → (Nat → Int32) → Prop} {f : Nat → Int32} (h : cs[a]? = some (.inl (t, n, .inl f))) (hk : k n f) : ex_ar cs a t k := by
  unfold ex_ar
  rw [h]
  exact ⟨rfl, hk⟩
theorem ab_i32 {x : Int32} : (x = 0 → ab_rl 0 x.toInt (0 : Int32).toInt) ∧ (¬ x = 0 → ab_rl 1 x.toInt (0 : Int32).toInt) := ⟨fun h => by subst h; rfl, fun h e => h (Int32.toInt_inj.mp e)⟩
theorem ab_ieq {x y : Int32} : (x = y → ab_rl 0 x.toInt y.toInt) ∧ (¬ x = y → ab_rl 1 x.toInt y.toInt) := ⟨fun h => by subst h; rfl, fun h e => h (Int32.toInt_inj.mp e)⟩
theorem ab_ilt {x y : Int32} : (x < y → ab_rl 2 x.toInt y.toInt) ∧ (¬ x < y → ab_rl 3 x.toInt y.toInt) := ⟨fun h => Int32.lt_iff_toInt_lt.mp h, fun h => Int.not_lt.mp (fun q => h (Int32.lt_iff_toInt_lt.mpr q))⟩
theorem ab_ige {x y : Int32} : (y ≤ x → ab_rl 3 x.toInt y.toInt) ∧ (¬ y ≤ x → ab_rl 2 x.toInt y.toInt) := ⟨fun h => Int32.le_iff_toInt_le.mp h, fun h => Int.not_le.mp (fun q => h (Int32.le_iff_toInt_le.mpr q))⟩
theorem ab_igt {x y : Int32} : (y < x → ab_rl 4 x.toInt y.toInt) ∧ (¬ y < x → ab_rl 5 x.toInt y.toInt) := ⟨fun h => Int32.lt_iff_toInt_lt.mp h, fun h => Int.not_lt.mp (fun q => h (Int32.lt_iff_toInt_lt.mpr q))⟩
theorem ab_ile {x y : Int32} : (x ≤ y → ab_rl 5 x.toInt y.toInt) ∧ (¬ x ≤ y → ab_rl 4 x.toInt y.toInt) := ⟨fun h => Int32.le_iff_toInt_le.mp h, fun h => Int.not_le.mp (fun q => h (Int32.le_iff_toInt_le.mpr q))⟩
theorem ab_bj {A : Prop} {pc : Nat} {off : Int} {P : Nat → Prop} {c c' : Nat} {x y : Int32} (h : 0 ≤ (pc : Int) + off ∧ (ab_rl c x.toInt y.toInt → P ((pc : Int) + off).toNat) ∧ (ab_rl c' x.toInt y.toInt → P (pc + 3))) (hA : (A → ab_rl c x.toInt y.toInt) ∧ (¬ A → ab_rl c' x.toInt y.toInt)) : ex_to pc off (fun t => ex_b A (P t) (P (pc + 3))) := And.intro h.1 (And.intro (fun a => h.2.1 (hA.1 a)) (fun a => h.2.2 (hA.2 a)))
theorem ab_bj' {A : Prop} {pc : Nat} {off : Int} {P : Nat → Prop} {c c' : Nat} {x y : Int32} (h : 0 ≤ (pc : Int) + off ∧ (ab_rl c x.toInt y.toInt → P ((pc : Int) + off).toNat) ∧ (ab_rl c' x.toInt y.toInt → P (pc + 3))) (hA : (A → ab_rl c' x.toInt y.toInt) ∧ (¬ A → ab_rl c x.toInt y.toInt)) : ex_to pc off (fun t => ex_b A (P (pc + 3)) (P t)) := And.intro h.1 (And.intro (fun a => h.2.2 (hA.1 a)) (fun a => h.2.1 (hA.2 a)))
theorem ab_upds {f : Nat → Int32} {i z : Int32} {n : Nat} {sg : List (Nat × Int × Int)} {b : Int × Int} {c : ab_I} {lv : ex_L} {cs : ex_C} (h : ∀ j, j < n → (ab_sg sg j).1 ≤ (f j).toInt ∧ (f j).toInt ≤ (ab_sg sg j).2) (e : ab_sg sg i.toInt.toNat = b) (hb : b.1 ≤ c.1 ∧ c.2.1 ≤ b.2) (hc : ab_ci o lv cs c z) : ∀ j, j < n → (ab_sg sg j).1 ≤ (upd f i.toNatClampNeg z j).toInt ∧ (upd f i.toNatClampNeg z j).toInt ≤ (ab_sg sg j).2 := by
  intro j hj
  unfold upd
  split
  · rename_i ej
    have e2 : i.toNatClampNeg = i.toInt.toNat := rfl
    rw [ej, e2, e]
    have h1 := hc.1
    omega
  · exact h j hj
set_option maxHeartbeats 8000000 in
theorem ab_i_sound (ho : ab_dlw o) (hn : ab_dln o) (hgl : ab_dgw o cs0) (hcm : ∀ ix q, cm ix = some q → cx.2.2.2.2.1 ix = some (q.1, q.2.1, ab_sp hd q.2.2)) (hxs : ab_xo xs xt) (hE : ∀ r al fc lv cs v, E r al fc = true → ab_cl o al lv → ab_cf o lv cs fc → ab_hk hd cs → ab_fr W cs0 cs → (match r with
      | none => v = none
      | some a => ∃ x : Int32, v = some (.int x) ∧ (a.1 ≤ x.toInt ∧ x.toInt ≤ a.2.1) ∧ ∀ d, a.2.2.2 = some d → x.toInt = o d.1 + d.2) → Q v cs)
    {i : Instr} {len pc : Nat} {al : ab_L} {as : List ab_V} {fc : ab_F} {lv : ex_L} {st : ex_V} {cs : ex_C} {K : Nat → ab_L → List ab_V → ab_F → Bool} {K' : Nat → ex_L → ex_V → ex_C → Prop}
    (h : ab_i hd xs cx cm ret W E i len pc al as fc K = true) (g : ab_G hd W o cs0 al as fc lv st cs)
    (kk : ∀ pc al as fc lv st cs, K pc al as fc = true → ab_G hd W o cs0 al as fc lv st cs → K' pc lv st cs) : ex_i xt cx ret Q i len pc lv st cs K' := by
  have gl := g.1
  have gs := g.2.1
  have gf := g.2.2.1
  have gh := g.2.2.2.1
  have gw := g.2.2.2.2
  cases i with
  | iconst n => obtain ⟨hl, h⟩ := ab_a h; exact And.intro hl (kk _ _ _ _ _ _ _ h (g.pu (ab_pi (ab_cnk _) gs)))
  | bipush n => obtain ⟨hl, h⟩ := ab_a h; exact And.intro hl (kk _ _ _ _ _ _ _ h (g.pu (ab_pi (ab_cnk _) gs)))
  | sipush n => obtain ⟨hl, h⟩ := ab_a h; exact And.intro hl (kk _ _ _ _ _ _ _ h (g.pu (ab_pi (ab_cnk _) gs)))
  | ldc ix => obtain ⟨hl, h⟩ := ab_a h; obtain ⟨v, hv, h⟩ := ab_o.at h; exact And.intro hl (ab_ooi hv (kk _ _ _ _ _ _ _ h (g.pu (ab_pi (ab_cnk _) gs))))
  | ldc_w ix => obtain ⟨hl, h⟩ := ab_a h; obtain ⟨v, hv, h⟩ := ab_o.at h; exact And.intro hl (ab_ooi hv (kk _ _ _ _ _ _ _ h (g.pu (ab_pi (ab_cnk _) gs))))
  | ldc2_w ix => obtain ⟨hl, h⟩ := ab_a h; obtain ⟨v, hv, h⟩ := ab_o.at h; exact And.intro hl (ab_ooi hv (kk _ _ _ _ _ _ _ h (g.pu (ab_pl ⟨⟨Int.le_refl _, Int.le_refl _⟩, fun _ h => (by cases h)⟩ gs))))
  | lconst n => obtain ⟨hl, h⟩ := ab_a h; exact And.intro hl (kk _ _ _ _ _ _ _ h (g.pu (ab_pl ⟨⟨Int.le_refl _, Int.le_refl _⟩, fun _ h => (by cases h)⟩ gs)))
  | iload_n k => obtain ⟨hl, h⟩ := ab_a h; obtain ⟨a, x, e, hv, h1, h2, h⟩ := ab_gi.at h gl; exact And.intro hl (ab_ogi hv (kk _ _ _ _ _ _ _ h (g.pu (ab_pi (ab_il hv h1 h2) gs))))
  | iload k => obtain ⟨hl, h⟩ := ab_a h; obtain ⟨a, x, e, hv, h1, h2, h⟩ := ab_gi.at h gl; exact And.intro hl (ab_ogi hv (kk _ _ _ _ _ _ _ h (g.pu (ab_pi (ab_il hv h1 h2) gs))))
  | lload_n k => obtain ⟨hl, h⟩ := ab_a h; obtain ⟨a, x, hv, h1, h⟩ := ab_gl.at h gl; exact And.intro hl (ab_ogl hv (kk _ _ _ _ _ _ _ h (g.pu (ab_pl h1 gs))))
  | lload k => obtain ⟨hl, h⟩ := ab_a h; obtain ⟨a, x, hv, h1, h⟩ := ab_gl.at h gl; exact And.intro hl (ab_ogl hv (kk _ _ _ _ _ _ _ h (g.pu (ab_pl h1 gs))))
  | aload_n k => obtain ⟨hl, h⟩ := ab_a h; obtain ⟨a, hv, h⟩ := ab_gr.at h gl; exact And.intro hl (ab_ogr hv (kk _ _ _ _ _ _ _ h (g.pu (ab_pr gs))))
  | aload k => obtain ⟨hl, h⟩ := ab_a h; obtain ⟨a, hv, h⟩ := ab_gr.at h gl; exact And.intro hl (ab_ogr hv (kk _ _ _ _ _ _ _ h (g.pu (ab_pr gs))))
  | istore_n k => obtain ⟨hl, h⟩ := ab_a h; exact And.intro hl (ab_stk h g (fun _ _ _ _ _ h' g' => kk _ _ _ _ _ _ _ h' g'))
  | istore k => obtain ⟨hl, h⟩ := ab_a h; exact And.intro hl (ab_stk h g (fun _ _ _ _ _ h' g' => kk _ _ _ _ _ _ _ h' g'))
  | astore_n k => obtain ⟨hl, h⟩ := ab_a h; exact And.intro hl (ab_srk h g (fun _ _ _ _ _ h' g' => kk _ _ _ _ _ _ _ h' g'))
  | astore k => obtain ⟨hl, h⟩ := ab_a h; exact And.intro hl (ab_srk h g (fun _ _ _ _ _ h' g' => kk _ _ _ _ _ _ _ h' g'))
  | lstore_n k => obtain ⟨hl, h⟩ := ab_a h; exact And.intro hl (ab_slk h g (fun _ _ _ _ _ h' g' => kk _ _ _ _ _ _ _ h' g'))
  | lstore k => obtain ⟨hl, h⟩ := ab_a h; exact And.intro hl (ab_slk h g (fun _ _ _ _ _ h' g' => kk _ _ _ _ _ _ _ h' g'))
  | iinc k n =>
    obtain ⟨hl, h⟩ := ab_a h
    obtain ⟨a, x, e, hv, h1, h2, h⟩ := ab_gi.at h gl
    obtain ⟨h3, h4⟩ := ab_b h
    have hx : ab_ci o lv cs (ab_add a (ab_cn (Int32.ofInt n).toInt)) (x + Int32.ofInt n) := by
      obtain ⟨b1, b2, b3, b4⟩ := a
      have ha : ab_ci o lv cs (b1, b2, none, b4) x := ab_mk h1.1 h1.2 h2
      show ab_ci o lv cs (ab_add (b1, b2, none, b4) (ab_cn (Int32.ofInt n).toInt)) (x + Int32.ofInt n)
      exact ab_addk ho hn ha (ab_cnk _)
    exact And.intro hl (ab_ogi hv (And.intro (ab_sok h3 gl) (kk _ _ _ _ _ _ _ h4 ⟨ab_clset gl ⟨_, rfl, hx.1, hx.2.2⟩, ab_kst ab_nlk gs, ab_kcf ab_nlk gf, gh, gw⟩)))
  | iadd => obtain ⟨hl, h⟩ := ab_a h; obtain ⟨a, b, x, y, r, t, rfl, ha, hb, ht, h⟩ := ab_i2.at h gs; exact And.intro hl (kk _ _ _ _ _ _ _ h (g.pu (ab_pi (ab_adfk ho hn gf ha hb) ht)))
  | isub => obtain ⟨hl, h⟩ := ab_a h; obtain ⟨a, b, x, y, r, t, rfl, ha, hb, ht, h⟩ := ab_i2.at h gs; exact And.intro hl (kk _ _ _ _ _ _ _ h (g.pu (ab_pi (ab_subk ho gf ha hb) ht)))
  | imul => obtain ⟨hl, h⟩ := ab_a h; obtain ⟨a, b, x, y, r, t, rfl, ha, hb, ht, h⟩ := ab_i2.at h gs; exact And.intro hl (kk _ _ _ _ _ _ _ h (g.pu (ab_pi (ab_mulk ha hb) ht)))
  | iand => obtain ⟨hl, h⟩ := ab_a h; obtain ⟨a, b, x, y, r, t, rfl, ha, hb, ht, h⟩ := ab_i2.at h gs; exact And.intro hl (kk _ _ _ _ _ _ _ h (g.pu (ab_pi (ab_andk ha hb) ht)))
  | ior => obtain ⟨hl, h⟩ := ab_a h; obtain ⟨a, b, x, y, r, t, rfl, ha, hb, ht, h⟩ := ab_i2.at h gs; exact And.intro hl (kk _ _ _ _ _ _ _ h (g.pu (ab_pi (ab_ork ha hb) ht)))
  | ixor => obtain ⟨hl, h⟩ := ab_a h; obtain ⟨a, b, x, y, r, t, rfl, ha, hb, ht, h⟩ := ab_i2.at h gs; exact And.intro hl (kk _ _ _ _ _ _ _ h (g.pu (ab_pi (ab_topk _) ht)))
  | ishl => obtain ⟨hl, h⟩ := ab_a h; obtain ⟨a, b, x, y, r, t, rfl, ha, hb, ht, h⟩ := ab_i2.at h gs; exact And.intro hl (kk _ _ _ _ _ _ _ h (g.pu (ab_pi (ab_topk _) ht)))
  | ishr => obtain ⟨hl, h⟩ := ab_a h; obtain ⟨a, b, x, y, r, t, rfl, ha, hb, ht, h⟩ := ab_i2.at h gs; exact And.intro hl (kk _ _ _ _ _ _ _ h (g.pu (ab_pi (ab_topk _) ht)))
  | iushr => obtain ⟨hl, h⟩ := ab_a h; obtain ⟨a, b, x, y, r, t, rfl, ha, hb, ht, h⟩ := ab_i2.at h gs; exact And.intro hl (kk _ _ _ _ _ _ _ h (g.pu (ab_pi (ab_topk _) ht)))
  | idiv => obtain ⟨hl, h⟩ := ab_a h; obtain ⟨a, b, x, y, r, t, rfl, ha, hb, ht, h⟩ := ab_i2.at h gs; obtain ⟨h1, h⟩ := ab_b h; exact And.intro hl (And.intro (ab_nzk h1 hb.1.1 hb.1.2) (kk _ _ _ _ _ _ _ h (g.pu (ab_pi (ab_divk ho gf ha hb) ht))))
  | irem => obtain ⟨hl, h⟩ := ab_a h; obtain ⟨a, b, x, y, r, t, rfl, ha, hb, ht, h⟩ := ab_i2.at h gs; obtain ⟨h1, h⟩ := ab_b h; exact And.intro hl (And.intro (ab_nzk h1 hb.1.1 hb.1.2) (kk _ _ _ _ _ _ _ h (g.pu (ab_pi (ab_remk gf ha hb) ht))))
  | ineg => obtain ⟨hl, h⟩ := ab_a h; obtain ⟨a, x, r, t, rfl, ha, ht, h⟩ := ab_i1.at h gs; exact And.intro hl (kk _ _ _ _ _ _ _ h (g.pu (ab_pi (ab_topk _) ht)))
  | i2l =>
    obtain ⟨hl, h⟩ := ab_a h
    obtain ⟨a, x, r, t, rfl, ha, ht, h⟩ := ab_i1.at h gs
    exact And.intro hl (kk _ _ _ _ _ _ _ h (g.pu (ab_pl ⟨by rw [Int32.toInt_toInt64]; exact ha.1, fun q hq => by rw [Int32.toInt_toInt64]; exact ab_d1k ha.2.2 q hq⟩ ht)))
  | l2i =>
    obtain ⟨hl, h⟩ := ab_a h
    obtain ⟨a, x, r, t, rfl, ha, ht, h⟩ := ab_l1.at h gs
    refine And.intro hl (kk _ _ _ _ _ _ _ h (g.pu (ab_pi (ab_mk (ab_ge _) (ab_lt' _) (fun q hq => ?_)) ht)))
    cases hk : ab_d2 8 a.2.2 (some 0) with
    | none => rw [hk] at hq; cases hq
    | some k =>
      rw [hk] at hq
      cases hq
      obtain ⟨c, -, e⟩ := ab_d2k (y := o 0) ho ha.2 (fun q e => by cases e; rfl) k hk
      dsimp only
      rw [e, Int64.toInt_toInt32]
      show _ = x.toInt.bmod (2 ^ 32) + 0
      omega
  | ladd => obtain ⟨hl, h⟩ := ab_a h; obtain ⟨a, b, x, y, r, t, rfl, ha, hb, ht, h⟩ := ab_l2.at h gs; exact And.intro hl (kk _ _ _ _ _ _ _ h (g.pu (ab_pt _ (ab_d2l ho ha.2 hb.2 (fun _ => Int64.toInt_add x y)) ht)))
  | lsub => obtain ⟨hl, h⟩ := ab_a h; obtain ⟨a, b, x, y, r, t, rfl, ha, hb, ht, h⟩ := ab_l2.at h gs; exact And.intro hl (kk _ _ _ _ _ _ _ h (g.pu (ab_pt _ (fun _ h => (by cases h)) ht)))
  | lmul => obtain ⟨hl, h⟩ := ab_a h; obtain ⟨a, b, x, y, r, t, rfl, ha, hb, ht, h⟩ := ab_l2.at h gs; exact And.intro hl (kk _ _ _ _ _ _ _ h (g.pu (ab_pt _ (ab_d2l ho ha.2 hb.2 (fun _ => Int64.toInt_mul x y)) ht)))
  | ldiv => obtain ⟨hl, h⟩ := ab_a h; obtain ⟨a, b, x, y, r, t, rfl, ha, hb, ht, h⟩ := ab_l2.at h gs; obtain ⟨h1, h⟩ := ab_b h; exact And.intro hl (And.intro (ab_lnzk h1 hb.1.1 hb.1.2) (kk _ _ _ _ _ _ _ h (g.pu (ab_pt _ (ab_d2l ho ha.2 hb.2 (fun _ => Int64.toInt_div x y)) ht))))
  | dup => obtain ⟨hl, h⟩ := ab_a h; obtain ⟨a, v, r, t, rfl, h1, ha, ht, h⟩ := ab_v1.at h gs; exact And.intro hl (And.intro h1 (kk _ _ _ _ _ _ _ h (g.pu ⟨_, _, rfl, ha, _, _, rfl, ha, ht⟩)))
  | pop => obtain ⟨hl, h⟩ := ab_a h; obtain ⟨a, v, r, t, rfl, h1, ha, ht, h⟩ := ab_v1.at h gs; exact And.intro hl (And.intro h1 (kk _ _ _ _ _ _ _ h (g.pu ht)))
  | dup_x1 => obtain ⟨hl, h⟩ := ab_a h; obtain ⟨a, b, v, w, r, t, rfl, h1, h2, ha, hb, ht, h⟩ := ab_v2.at h gs; exact And.intro hl (And.intro h1 (And.intro h2 (kk _ _ _ _ _ _ _ h (g.pu ⟨_, _, rfl, ha, _, _, rfl, hb, _, _, rfl, ha, ht⟩))))
  | dup2 => obtain ⟨hl, h⟩ := ab_a h; obtain ⟨a, b, v, w, r, t, rfl, h1, h2, ha, hb, ht, h⟩ := ab_v2.at h gs; exact And.intro hl (And.intro h1 (And.intro h2 (kk _ _ _ _ _ _ _ h (g.pu ⟨_, _, rfl, ha, _, _, rfl, hb, _, _, rfl, ha, _, _, rfl, hb, ht⟩))))
  | ifCond cnd off =>
    cases cnd with
    | eq => obtain ⟨hl, h⟩ := ab_a h; obtain ⟨a, x, r, t, rfl, ha, ht, h⟩ := ab_i1.at h gs; exact And.intro hl (ab_bj (P := fun t' => K' t' lv t cs) (ab_cjk h ha ab_c0 gl gf (fun _ _ _ h' g' f' => kk _ _ _ _ _ _ _ h' ⟨g', ht, f', gh, gw⟩)) ab_ieq)
    | ne => obtain ⟨hl, h⟩ := ab_a h; obtain ⟨a, x, r, t, rfl, ha, ht, h⟩ := ab_i1.at h gs; exact And.intro hl (ab_bj' (P := fun t' => K' t' lv t cs) (ab_cjk h ha ab_c0 gl gf (fun _ _ _ h' g' f' => kk _ _ _ _ _ _ _ h' ⟨g', ht, f', gh, gw⟩)) ab_ieq)
    | lt => obtain ⟨hl, h⟩ := ab_a h; obtain ⟨a, x, r, t, rfl, ha, ht, h⟩ := ab_i1.at h gs; exact And.intro hl (ab_bj (P := fun t' => K' t' lv t cs) (ab_cjk h ha ab_c0 gl gf (fun _ _ _ h' g' f' => kk _ _ _ _ _ _ _ h' ⟨g', ht, f', gh, gw⟩)) ab_ilt)
    | ge => obtain ⟨hl, h⟩ := ab_a h; obtain ⟨a, x, r, t, rfl, ha, ht, h⟩ := ab_i1.at h gs; exact And.intro hl (ab_bj (P := fun t' => K' t' lv t cs) (ab_cjk h ha ab_c0 gl gf (fun _ _ _ h' g' f' => kk _ _ _ _ _ _ _ h' ⟨g', ht, f', gh, gw⟩)) ab_ige)
    | gt => obtain ⟨hl, h⟩ := ab_a h; obtain ⟨a, x, r, t, rfl, ha, ht, h⟩ := ab_i1.at h gs; exact And.intro hl (ab_bj (P := fun t' => K' t' lv t cs) (ab_cjk h ha ab_c0 gl gf (fun _ _ _ h' g' f' => kk _ _ _ _ _ _ _ h' ⟨g', ht, f', gh, gw⟩)) ab_igt)
    | le => obtain ⟨hl, h⟩ := ab_a h; obtain ⟨a, x, r, t, rfl, ha, ht, h⟩ := ab_i1.at h gs; exact And.intro hl (ab_bj (P := fun t' => K' t' lv t cs) (ab_cjk h ha ab_c0 gl gf (fun _ _ _ h' g' f' => kk _ _ _ _ _ _ _ h' ⟨g', ht, f', gh, gw⟩)) ab_ile)
  | if_icmp cnd off =>
    cases cnd with
    | eq => obtain ⟨hl, h⟩ := ab_a h; obtain ⟨a, b, x, y, r, t, rfl, ha, hb, ht, h⟩ := ab_i2.at h gs; exact And.intro hl (ab_bj (P := fun t' => K' t' lv t cs) (ab_cjk h ha hb gl gf (fun _ _ _ h' g' f' => kk _ _ _ _ _ _ _ h' ⟨g', ht, f', gh, gw⟩)) ab_ieq)
    | ne => obtain ⟨hl, h⟩ := ab_a h; obtain ⟨a, b, x, y, r, t, rfl, ha, hb, ht, h⟩ := ab_i2.at h gs; exact And.intro hl (ab_bj' (P := fun t' => K' t' lv t cs) (ab_cjk h ha hb gl gf (fun _ _ _ h' g' f' => kk _ _ _ _ _ _ _ h' ⟨g', ht, f', gh, gw⟩)) ab_ieq)
    | lt => obtain ⟨hl, h⟩ := ab_a h; obtain ⟨a, b, x, y, r, t, rfl, ha, hb, ht, h⟩ := ab_i2.at h gs; exact And.intro hl (ab_bj (P := fun t' => K' t' lv t cs) (ab_cjk h ha hb gl gf (fun _ _ _ h' g' f' => kk _ _ _ _ _ _ _ h' ⟨g', ht, f', gh, gw⟩)) ab_ilt)
    | ge => obtain ⟨hl, h⟩ := ab_a h; obtain ⟨a, b, x, y, r, t, rfl, ha, hb, ht, h⟩ := ab_i2.at h gs; exact And.intro hl (ab_bj (P := fun t' => K' t' lv t cs) (ab_cjk h ha hb gl gf (fun _ _ _ h' g' f' => kk _ _ _ _ _ _ _ h' ⟨g', ht, f', gh, gw⟩)) ab_ige)
    | gt => obtain ⟨hl, h⟩ := ab_a h; obtain ⟨a, b, x, y, r, t, rfl, ha, hb, ht, h⟩ := ab_i2.at h gs; exact And.intro hl (ab_bj (P := fun t' => K' t' lv t cs) (ab_cjk h ha hb gl gf (fun _ _ _ h' g' f' => kk _ _ _ _ _ _ _ h' ⟨g', ht, f', gh, gw⟩)) ab_igt)
    | le => obtain ⟨hl, h⟩ := ab_a h; obtain ⟨a, b, x, y, r, t, rfl, ha, hb, ht, h⟩ := ab_i2.at h gs; exact And.intro hl (ab_bj (P := fun t' => K' t' lv t cs) (ab_cjk h ha hb gl gf (fun _ _ _ h' g' f' => kk _ _ _ _ _ _ _ h' ⟨g', ht, f', gh, gw⟩)) ab_ile)
  | goto off => obtain ⟨hl, h⟩ := ab_a h; obtain ⟨h1, h⟩ := ab_to.at h; exact And.intro hl (And.intro h1 (kk _ _ _ _ _ _ _ h g))
  | tableswitch dflt lo hi offs =>
    obtain ⟨hl, h⟩ := ab_a h
    obtain ⟨a, x, r, t, rfl, ha, ht, h⟩ := ab_i1.at h gs
    obtain ⟨h1, h2⟩ := ab_b h
    refine And.intro hl (And.intro (fun hout => ?_) (ab_tbk ha.1.1 ha.1.2 (fun f hk => ?_) h2))
    · have ha1 := ha.1
      rw [if_neg (by omega)] at h1
      obtain ⟨h3, h4⟩ := ab_to.at h1
      exact And.intro h3 (kk _ _ _ _ _ _ _ h4 (g.pu ht))
    · obtain ⟨h3, h4⟩ := ab_to.at hk
      obtain ⟨al', fc', h5, g5, f5⟩ := ab_rfk h4 (Int.le_refl _) (Int.le_refl _) ha.2.1 ha.2.2 gl gf
      exact And.intro h3 (kk _ _ _ _ _ _ _ h5 ⟨g5, ht, f5, gh, gw⟩)
  | lookupswitch dflt ps =>
    obtain ⟨hp, h⟩ := ab_b h
    obtain ⟨hq, h⟩ := ab_b h
    obtain ⟨a, x, r, t, rfl, ha, ht, h⟩ := ab_i1.at h gs
    obtain ⟨h1, h2⟩ := ab_b h
    refine And.intro hp (And.intro hq (And.intro (fun _ => ?_) (ab_lksk ha.1.1 ha.1.2 (fun f hk => ?_) h2)))
    · obtain ⟨h3, h4⟩ := ab_to.at h1
      exact And.intro h3 (kk _ _ _ _ _ _ _ h4 (g.pu ht))
    · obtain ⟨h3, h4⟩ := ab_to.at hk
      obtain ⟨al', fc', h5, g5, f5⟩ := ab_rfk h4 (Int.le_refl _) (Int.le_refl _) ha.2.1 ha.2.2 gl gf
      exact And.intro h3 (kk _ _ _ _ _ _ _ h5 ⟨g5, ht, f5, gh, gw⟩)
  | getfield ix =>
    obtain ⟨hl, h⟩ := ab_a h
    obtain ⟨a, r, t, rfl, ht, h⟩ := ab_r1.at h gs
    obtain ⟨q, hq, h⟩ := ab_o.at h
    obtain ⟨ts, hts, h⟩ := ab_objk h
    obtain ⟨ty, hty, h⟩ := ab_o.at h
    obtain ⟨fs, hfs, -, hj⟩ := gh.obj hts
    obtain ⟨v, hv, hc⟩ := hj _ _ hty
    refine And.intro hl (ab_ooi hq (ab_oob hfs (ab_ooi hv ?_)))
    cases ty with
    | inl k => cases hc; exact kk _ _ _ _ _ _ _ h (g.pu (ab_pr ht))
    | inr b =>
      obtain ⟨x, rfl, x1, x2⟩ := hc
      refine kk _ _ _ _ _ _ _ h (g.pu (ab_pi (ab_ldk (fun y hy => ?_) gf x1 x2) ht))
      cases hy
      show ab_ri cs a q.2.1 = some x.toInt
      unfold ab_ri ab_rd
      rw [hfs]
      dsimp only
      rw [hv]
  | putfield ix =>
    obtain ⟨hl, h⟩ := ab_a h
    obtain ⟨v, w, a, r, t, rfl, hw, ht, h⟩ := ab_vr.at h gs
    · obtain ⟨q, hq, h⟩ := ab_o.at h
      obtain ⟨ts, hts, h⟩ := ab_objk h
      obtain ⟨ty, hty, h⟩ := ab_o.at h
      obtain ⟨h1, h⟩ := ab_b h
      obtain ⟨h2, h⟩ := ab_b h
      obtain ⟨h3, h⟩ := ab_b h
      obtain ⟨fs, hfs, hlen, hj⟩ := gh.obj hts
      have hlt : q.2.1 < fs.length := by rw [hlen]; exact (List.getElem?_eq_some_iff.mp hty).1
      have hh : ab_hk hd (cs.set a (.inr (q.1, fs.set q.2.1 w))) := by
        refine gh.set hts ⟨_, rfl, by rw [List.length_set]; exact hlen, fun j t' ht' => ?_⟩
        by_cases hjq : q.2.1 = j
        · subst hjq
          rw [hty] at ht'
          cases ht'
          exact ⟨w, List.getElem?_set_self hlt, ab_lek h1 hw⟩
        · rw [List.getElem?_set_ne hjq]
          exact hj j t' ht'
      obtain ⟨r', fc', h4, g4⟩ := ab_wrk h (ab_fro hfs) hh gl ht gf gw
      refine And.intro hl (ab_ooi hq (ab_oob hfs (And.intro hlt (And.intro h2 (And.intro (ab_fitk h3 hw) ?_)))))
      split at h4
      · rename_i x
        obtain ⟨y, rfl, hy⟩ := hw
        refine kk _ _ _ _ _ _ _ h4 ⟨g4.1, g4.2.1, fun p hp => ?_, g4.2.2.2⟩
        rcases List.mem_cons.mp hp with rfl | hp
        · refine ⟨y.toInt, ?_, hy.1.1, hy.1.2, hy.2.2⟩
          show ab_ri (cs.set a (.inr (q.1, fs.set q.2.1 (.int y)))) a q.2.1 = some y.toInt
          unfold ab_ri
          rw [ab_rds hfs]
          dsimp only
          rw [List.getElem?_set_self hlt]
        · exact g4.2.2.1 p hp
      · exact kk _ _ _ _ _ _ _ h4 g4
  | getstatic ix =>
    obtain ⟨hl, h⟩ := ab_a h
    obtain ⟨j, hj, h⟩ := ab_o.at h
    exact And.intro hl (ab_ooi hj (kk _ _ _ _ _ _ _ h (g.pu (ab_pr gs))))
  | iaload =>
    obtain ⟨hl, h⟩ := ab_a h
    obtain ⟨b, i, a, r, t, rfl, hb, ht, h⟩ := ab_ir.at h gs
    refine And.intro hl ?_
    show ex_ax xt cs a (fun n f => vp_in i n ∧ K' (pc + 1) lv (.int (f i.toNatClampNeg) :: t) cs)
    unfold ex_ax
    split at h
    · rename_i ha
      rw [if_pos ha]
      obtain ⟨q, hq, h⟩ := ab_o.at h
      obtain ⟨h1, h⟩ := ab_b h
      obtain ⟨f, hf1, hf2⟩ := hxs _ _ hq
      obtain ⟨i1, i2, i3⟩ := ab_idxk h1 hb
      have := hf2 _ i3
      exact ab_ooi hf1 (And.intro i1 (kk _ _ _ _ _ _ _ h (g.pu (ab_pi (ab_xek hb this) ht))))
    · rename_i ha
      rw [if_neg ha]
      obtain ⟨n, sg, bb, e, hn, h⟩ := ab_arrk h
      obtain ⟨h1, h⟩ := ab_b h
      obtain ⟨f, hf1, hf2⟩ := gh.2 _ _ e
      obtain ⟨i1, i2, i3⟩ := ab_idxk h1 hb
      have := hf2 _ i3
      rw [ab_bdk hn hb i3] at this
      exact ab_oar hf1 (And.intro i1 (kk _ _ _ _ _ _ _ h (g.pu (ab_pi (ab_ldk (ab_ekk hf1 hb i2) gf this.1 this.2) ht))))
  | baload =>
    obtain ⟨hl, h⟩ := ab_a h
    obtain ⟨b, i, a, r, t, rfl, hb, ht, h⟩ := ab_ir.at h gs
    obtain ⟨n, sg, bb, e, hn, h⟩ := ab_arrk h
    obtain ⟨h1, h⟩ := ab_b h
    obtain ⟨f, hf1, hf2⟩ := gh.2 _ _ e
    obtain ⟨i1, i2, i3⟩ := ab_idxk h1 hb
    have := hf2 _ i3
    rw [ab_bdk hn hb i3] at this
    exact And.intro hl (ab_oar hf1 (And.intro i1 (kk _ _ _ _ _ _ _ h (g.pu (ab_pi (ab_ldk (ab_ekk hf1 hb i2) gf this.1 this.2) ht)))))
  | iastore =>
    obtain ⟨hl, h⟩ := ab_a h
    obtain ⟨c, z, b, i, a, r, t, rfl, hc, hb, ht, h⟩ := ab_iir.at h gs
    obtain ⟨n, sg, bb, e, hn, h⟩ := ab_arrk h
    obtain ⟨h1, h⟩ := ab_b h
    obtain ⟨h2, h⟩ := ab_a h
    obtain ⟨f, hf1, hf2⟩ := gh.2 _ _ e
    obtain ⟨i1, i2, i3⟩ := ab_idxk h1 hb
    have hc1 := hc.1
    obtain ⟨r', fc', h4, g4⟩ := ab_wrk h (ab_fra hf1 (ab_wkk (f := f) (x := z) hb)) (gh.set e ⟨_, rfl, ab_upds hf2 (ab_bdk hn hb i3) h2 hc⟩) gl ht gf gw
    refine And.intro hl (ab_oar hf1 (And.intro i1 (kk _ _ _ _ _ _ _ h4 ⟨g4.1, g4.2.1, ?_, g4.2.2.2⟩)))
    unfold ab_wf
    split
    · rename_i ei
      intro p hp
      rcases List.mem_cons.mp hp with rfl | hp
      · have hb1 := hb.1
        refine ⟨z.toInt, ?_, hc.1.1, hc.1.2, hc.2.2⟩
        show ab_ri (cs.set a (.inl (0, n, .inl (upd f i.toNatClampNeg z)))) a b.1.toNat = some z.toInt
        unfold ab_ri
        rw [ab_rds hf1]
        have e2 : i.toNatClampNeg = i.toInt.toNat := rfl
        have e3 : b.1.toNat = i.toNatClampNeg := by
          rw [e2, show b.1 = i.toInt by omega]
        dsimp only
        rw [e3]
        unfold upd
        rw [if_pos rfl]
      · exact g4.2.2.1 p hp
    · exact g4.2.2.1
  | bastore =>
    obtain ⟨hl, h⟩ := ab_a h
    obtain ⟨c, z, b, i, a, r, t, rfl, hc, hb, ht, h⟩ := ab_iir.at h gs
    obtain ⟨n, sg, bb, e, hn, h⟩ := ab_arrk h
    obtain ⟨h1, h⟩ := ab_b h
    obtain ⟨h2, h⟩ := ab_a h
    obtain ⟨h3, h⟩ := ab_a h
    obtain ⟨f, hf1, hf2⟩ := gh.2 _ _ e
    obtain ⟨i1, i2, i3⟩ := ab_idxk h1 hb
    have hc1 := hc.1
    obtain ⟨r', fc', h4, g4⟩ := ab_wrk h (ab_fra hf1 (ab_wkk (f := f) (x := z) hb)) (gh.set e ⟨_, rfl, ab_upds hf2 (ab_bdk hn hb i3) h2 hc⟩) gl ht gf gw
    exact And.intro hl (ab_oar hf1 (And.intro i1 (And.intro (ab_01 (by omega) (by omega)) (kk _ _ _ _ _ _ _ h4 g4))))
  | arraylength =>
    obtain ⟨hl, h⟩ := ab_a h
    obtain ⟨a, r, t, rfl, ht, h⟩ := ab_r1.at h gs
    refine And.intro hl ?_
    split at h
    · rename_i tt n sg e
      obtain ⟨h1, h⟩ := ab_a h
      obtain ⟨h2, h⟩ := ab_a h
      obtain ⟨f, hf, -⟩ := gh.2 _ _ e
      show match cs[a]? with
        | some (.inl (t2, n2, .inl _)) => (t2 = 0 ∨ t2 = 1) ∧ K' (pc + 1) lv (.int (Int32.ofNat n2) :: t) cs
        | _ => False
      rw [hf]
      refine ⟨h1, kk _ _ _ _ _ _ _ h (g.pu (ab_pi ?_ ht))⟩
      have en : (Int32.ofNat n).toInt = (n : Int) := Int32.toInt_ofNat_of_lt (by omega)
      have := ab_cnk (o := o) (lv := lv) (cs := cs) (Int32.ofNat n)
      rw [en] at this
      exact this
    · cases h
  | invokevirtual ix =>
    obtain ⟨hl, h⟩ := ab_a h
    obtain ⟨q, hq, h⟩ := ab_o.at h
    obtain ⟨h1, h⟩ := ab_a h
    obtain ⟨h2, h⟩ := ab_b h
    obtain ⟨ci, hci, h⟩ := ab_o.at h
    split at h
    · rename_i a ea
      obtain ⟨ts, hts, h⟩ := ab_objk h
      obtain ⟨fs, hfs, -⟩ := gh.obj hts
      obtain ⟨v, hv, hcv⟩ := ab_cget gs ea
      cases hcv
      refine And.intro hl (ab_ooi (hcm _ _ hq) (And.intro (by rw [← ab_clen gs]; exact h1.2) (And.intro (ab_sumk h2 (ab_cdrop gs)) (ab_ooi hci (ab_ooi hv (ab_oob hfs ?_))))))
      exact ab_callk ho hn hgl (P := fun st' cs' => K' (pc + 3) lv st' cs') h (ab_crev (ab_ctake gs)) (ab_cdrop gs) gl gf gh gw (fun _ _ _ _ _ h' g' => kk _ _ _ _ _ _ _ h' g')
    · cases h
  | invokestatic ix =>
    obtain ⟨hl, h⟩ := ab_a h
    refine And.intro hl ?_
    split at h
    · rename_i e
      rw [e]
      obtain ⟨n, n', dp, d', a, sp, s', a0, r, t, rfl, hn', hd', hs', ht, h⟩ := ab_c5.at h gs
      · skip
        obtain ⟨n0, m0, lo0, hi0, e0, hm0, h⟩ := ab_ar1k h
        obtain ⟨n1, m1, lo, hi, e1, hm1, h⟩ := ab_ar1k h
        obtain ⟨hc, h⟩ := ab_a h
        obtain ⟨h2, h⟩ := ab_b h
        obtain ⟨f, hf1, hf2⟩ := gh.arr e0 hm0
        obtain ⟨f1, hg1, hg2⟩ := gh.arr e1 hm1
        have hn1 := hn'.1
        have hd1 := hd'.1
        have hs1 := hs'.1
        have z0 : (0 : Int32).toInt = 0 := by decide
        have eS : s'.toNatClampNeg = s'.toInt.toNat := rfl
        have eD : d'.toNatClampNeg = d'.toInt.toNat := rfl
        have eN : n'.toNatClampNeg = n'.toInt.toNat := rfl
        have hcpy : ∀ j, j < n1 → lo ≤ (va_cpy f f1 s'.toNatClampNeg d'.toNatClampNeg n'.toNatClampNeg j).toInt ∧ (va_cpy f f1 s'.toNatClampNeg d'.toNatClampNeg n'.toNatClampNeg j).toInt ≤ hi := by
          intro j hj
          unfold va_cpy
          split
          · have := hf2 (s'.toNatClampNeg + (j - d'.toNatClampNeg)) (by omega)
            omega
          · exact hg2 j hj
        obtain ⟨r', fc', h4, g4⟩ := ab_wrk h (ab_fra (w := none) hg1 (fun _ hx => absurd rfl hx)) (ab_arrset gh e1 hm1 hcpy) gl ht gf gw
        show ex_cp cs _ _
        unfold ex_cp
        refine ab_oar hf1 (ab_oar hg1 ⟨?_, ?_, ?_, by omega, by omega, ab_sumk h2 ht, kk _ _ _ _ _ _ _ h4 g4⟩)
        · rw [Int32.lt_iff_toInt_lt]; omega
        · rw [Int32.lt_iff_toInt_lt]; omega
        · rw [Int32.lt_iff_toInt_lt]; omega
    · rename_i e
      rw [e]
      obtain ⟨a, b, x, y, r, t, rfl, ha, hb, ht, h⟩ := ab_i2.at h gs
      obtain ⟨h1, h⟩ := ab_b h
      exact And.intro (ab_sumk h1 ht) (kk _ _ _ _ _ _ _ h (g.pu (ab_pi (ab_mink ha hb) ht)))
    · rename_i e
      rw [e]
      obtain ⟨a, b, x, y, r, t, rfl, ha, hb, ht, h⟩ := ab_i2.at h gs
      obtain ⟨h1, h⟩ := ab_b h
      exact And.intro (ab_sumk h1 ht) (kk _ _ _ _ _ _ _ h (g.pu (ab_pi (ab_maxk ha hb) ht)))
    · rename_i e1 e2 e3
      split
      · rename_i e; exact absurd e e1
      · rename_i e; exact absurd e e2
      · rename_i e; exact absurd e e3
      · obtain ⟨q, hq, h⟩ := ab_o.at h
        obtain ⟨h1, h⟩ := ab_a h
        obtain ⟨h2, h⟩ := ab_b h
        obtain ⟨h3, h⟩ := ab_a h
        refine ab_ooi (hcm _ _ hq) (And.intro (by rw [← ab_clen gs]; exact h1) (And.intro (ab_sumk h2 (ab_cdrop gs)) (And.intro h3 ?_)))
        exact ab_callk ho hn hgl (P := fun st' cs' => K' (pc + 3) lv st' cs') h (ab_crev (ab_ctake gs)) (ab_cdrop gs) gl gf gh gw (fun _ _ _ _ _ h' g' => kk _ _ _ _ _ _ _ h' g')
  | ireturn =>
    obtain ⟨hl, h⟩ := ab_a h
    obtain ⟨x, y, rfl, hy, h⟩ := ab_x1.at h gs
    obtain ⟨h1, h2⟩ := ab_b h
    exact And.intro hl (And.intro (ab_rokk h1 hy) (hE (some x) al fc lv cs _ h2 gl gf gh gw ⟨y, rfl, hy.1, hy.2.2⟩))
  | return_ =>
    obtain ⟨hl, h⟩ := ab_a h
    obtain ⟨h1, h⟩ := ab_a h
    obtain ⟨h2, h⟩ := ab_b h
    have hn : as = [] := by simpa using h2
    subst hn
    exact And.intro hl (And.intro h1 (And.intro gs (hE none al fc lv cs none h gl gf gh gw rfl)))
  | _ => cases h
theorem ab_cset {lv : ex_L} {cs : ex_C} : ∀ {as : List ab_V} {st : ex_V} {d : Nat} {a b : ab_V} {v : Value}, ab_cst o lv cs as st → as[d]? = some a → st[d]? = some v → ab_cv o lv cs b v → ab_cst o lv cs (as.set d b) st
  | [], _, _, _, _, _, _, h, _, _ => by simp at h
  | c :: r, _, 0, a, b, v, ⟨w, q, e, h1, h2⟩, h, hv, hb => by
    subst e
    simp at hv
    subst hv
    exact ⟨w, q, rfl, hb, h2⟩
  | c :: r, _, d + 1, a, b, v, ⟨w, q, e, h1, h2⟩, h, hv, hb => by
    subst e
    simp at h hv
    exact ⟨w, q, rfl, h1, ab_cset h2 h hv hb⟩
theorem ab_sppk {d : Nat} {x : ab_I} {lo hi : Int} {al : ab_L} {as : List ab_V} {fc : ab_F} {lv : ex_L} {st : ex_V} {cs : ex_C} {y : Int32} {k : ab_L → List ab_V → ab_F → Bool} (h : ab_spp d x lo hi al as fc k = true) (e : as[d]? = some (.inr (.inl x))) (hv : st[d]? = some (.int y)) (hy : ab_ci o lv cs x y) (h1 : lo ≤ y.toInt) (h2 : y.toInt ≤ hi) (g : ab_G hd W o cs0 al as fc lv st cs) : ∃ al' as' fc', k al' as' fc' = true ∧ ab_G hd W o cs0 al' as' fc' lv st cs := by
  unfold ab_spp at h
  rcases (Bool.or_eq_true _ _).mp h with h | h
  · have := of_decide_eq_true h
    omega
  · obtain ⟨al', fc', h5, g5, f5⟩ := ab_rfk h h1 h2 hy.2.1 hy.2.2 g.1 g.2.2.1
    exact ⟨_, _, _, h5, g5, ab_cset g.2.1 e hv ⟨y, rfl, ⟨h1, h2⟩, hy.2.1, hy.2.2⟩, f5, g.2.2.2⟩
theorem ab_splk {d : Nat} {al : ab_L} {as : List ab_V} {fc : ab_F} {lv : ex_L} {st : ex_V} {cs : ex_C} {k : ab_L → List ab_V → ab_F → Bool} (h : ab_spl d al as fc k = true) (g : ab_G hd W o cs0 al as fc lv st cs) : ∃ al' as' fc', k al' as' fc' = true ∧ ab_G hd W o cs0 al' as' fc' lv st cs := by
  unfold ab_spl at h
  split at h
  · rename_i x e
    obtain ⟨v, hv, y, rfl, hy⟩ := ab_cget g.2.1 e
    have hy1 := hy.1
    split at h
    · have hm := List.all_eq_true.mp h (y.toInt - x.1).toNat (List.mem_range.mpr (by omega))
      exact ab_sppk hm e hv hy (by omega) (by omega) g
    · obtain ⟨q1, q2⟩ := ab_b h
      obtain ⟨q3, q4⟩ := ab_b q2
      by_cases c1 : y.toInt ≤ ((d / 1000 : Nat) : Int) - 2147483650
      · exact ab_sppk q1 e hv hy (by omega) (by omega) g
      · by_cases c2 : y.toInt ≤ ((d / 1000 : Nat) : Int) - 2147483649
        · exact ab_sppk q3 e hv hy (by omega) (by omega) g
        · exact ab_sppk q4 e hv hy (by omega) (by omega) g
  · cases h
theorem ab_spsk : ∀ {sp : List (Nat × Nat)} {al : ab_L} {as : List ab_V} {fc : ab_F} {lv : ex_L} {st : ex_V} {cs : ex_C} {k : ab_L → List ab_V → ab_F → Bool}, ab_sps sp al as fc k = true → ab_G hd W o cs0 al as fc lv st cs → ∃ al' as' fc', k al' as' fc' = true ∧ ab_G hd W o cs0 al' as' fc' lv st cs
  | [], _, _, _, _, _, _, _, h, g => ⟨_, _, _, h, g⟩
  | s :: r, _, _, _, _, _, _, _, h, g => by
    obtain ⟨al1, as1, fc1, h1, g1⟩ := ab_splk h g
    exact ab_spsk h1 g1
theorem ab_wp_sound (ho : ab_dlw o) (hn : ab_dln o) (hgl : ab_dgw o cs0) {sp : List (Nat × Nat)} {code : List (Nat × Instr × Nat)} {cc : ByteArray} {J : Nat → Option (ab_L → List ab_V → ab_F → Bool)} {I : Nat → Option (ex_L → ex_V → ex_C → Prop)} (hcode : ∀ q ∈ code, decode cc q.1 = .ok q.2) (hcm : ∀ ix q, cm ix = some q → cx.2.2.2.2.1 ix = some (q.1, q.2.1, ab_sp hd q.2.2)) (hxs : ab_xo xs xt) (hE : ∀ r al fc lv cs v, E r al fc = true → ab_cl o al lv → ab_cf o lv cs fc → ab_hk hd cs → ab_fr W cs0 cs → (match r with
      | none => v = none
      | some a => ∃ x : Int32, v = some (.int x) ∧ (a.1 ≤ x.toInt ∧ x.toInt ≤ a.2.1) ∧ ∀ d, a.2.2.2 = some d → x.toInt = o d.1 + d.2) → Q v cs)
    (hI : ∀ pc, (J pc = none → I pc = none) ∧ ∀ ch, J pc = some ch → ∃ P, I pc = some P ∧ ∀ al as fc lv st cs, ch al as fc = true → ab_G hd W o cs0 al as fc lv st cs → P lv st cs) :
    ∀ n pc al as fc lv st cs, ab_wp hd xs sp cx cm code ret W E J n pc al as fc = true → ab_G hd W o cs0 al as fc lv st cs → ex_wp xt cx cc ret I Q n pc lv st cs := by
  intro n
  induction n with
  | zero => intro pc al as fc lv st cs h; cases h
  | succ n ih =>
    intro pc al as fc lv st cs h g
    unfold ab_wp at h
    split at h
    · rename_i q hq
      have hm := List.mem_of_find?_eq_some hq
      have he : q.1 = pc := by simpa using List.find?_some hq
      have hd := hcode q hm
      rw [he] at hd
      unfold ex_wp
      rw [hd]
      obtain ⟨q1, i, len⟩ := q
      obtain ⟨al1, as1, fc1, h, g⟩ := ab_spsk h g
      refine ab_i_sound ho hn hgl hcm hxs hE h g (fun pc' al' as' fc' lv' st' cs' h' g' => ?_)
      cases hj : J pc' with
      | none =>
        rw [hj] at h'
        rw [(hI pc').1 hj]
        exact ih _ _ _ _ _ _ _ h' g'
      | some ch =>
        rw [hj] at h'
        obtain ⟨P, hP, hh⟩ := (hI pc').2 ch hj
        rw [hP]
        exact hh _ _ _ _ _ _ h' g'
    · cases h
end ABU

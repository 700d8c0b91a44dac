/-! BOUNDS: a walk over the bounds of values, run by the kernel. A ref is its place. A key names a number of the state: (0, i, _) the variable i; (1, k, j) slot j of place k; (2, k, i) the element of place k at the variable i; (3, i, c) the variable i rem c; (4, 1000 k + j, i) slot j of place k less the variable i; (5, 1000 k + j, i): and the variable i; (6, i, c) the variable i div c; (7, i, 100000 c + e): that rem e; (8, a, _) the number a of the beginning; (9, a, b) number a less number b of the beginning. Numbers of the beginning: below 1000 the variables, 1000 (k + 1) + j slot j of place k. -/
abbrev ab_Y : Type := Nat × Nat × Nat
abbrev ab_I : Type := Int × Int × Option ab_Y × Option (Nat × Int)
abbrev ab_V : Type := Nat ⊕ (ab_I ⊕ (Int × Int × Option Nat))
abbrev ab_L : Type := List (Option ab_V)
abbrev ab_F : Type := List (ab_Y × Int × Int × Option (Nat × Int))
abbrev ab_W : Type := List (Nat × Option Nat)
abbrev ab_T : Type := Nat ⊕ (Int × Int)
abbrev ab_H : Type := (Nat × List ab_T) ⊕ (Nat × Nat × List (Nat × Int × Int))
abbrev ab_Cs : Type := Option (Int × Int × Option (Nat × Int)) × ab_F × ab_F
abbrev ab_C : Type := List ab_T × ab_F × ab_W × List ab_Cs
abbrev ab_Q : Type := Nat × ab_L × ab_F × Int × List Int
/-- cells that stay what they were -/
def ab_ru (k a n : Nat) (lo hi : Int) : ab_F := (List.range n).map (fun j => ((1, k, a + j), lo, hi, some (1000 * (k + 1) + (a + j), 0)))
/-! what they mean -/
def ab_kv (o : Nat → Int) (lv : ex_L) (cs : ex_C) (y : ab_Y) : Option Int := match y.1 with
  | 0 => ab_li lv y.2.1
  | 1 => ab_ri cs y.2.1 y.2.2
  | 2 => (ab_li lv y.2.2).bind (fun x => if 0 ≤ x then ab_ri cs y.2.1 x.toNat else none)
  | 3 => (ab_li lv y.2.1).map (fun x => x.tmod (y.2.2 : Int))
  | 4 => (ab_ri cs (y.2.1 / 1000) (y.2.1 % 1000)).bind (fun x => (ab_li lv y.2.2).map (fun z => x - z))
  | 5 => (ab_ri cs (y.2.1 / 1000) (y.2.1 % 1000)).bind (fun x => (ab_li lv y.2.2).map (fun z => x + z))
  | 6 => (ab_li lv y.2.1).map (fun x => x.tdiv (y.2.2 : Int))
  | 7 => (ab_li lv y.2.1).map (fun x => (x.tdiv ((y.2.2 / 100000 : Nat) : Int)).tmod ((y.2.2 % 100000 : Nat) : Int))
  | 8 => some (o y.2.1)
  | 9 => some (o y.2.1 - o y.2.2)
  | _ => none
def ab_ci (o : Nat → Int) (lv : ex_L) (cs : ex_C) (a : ab_I) (x : Int32) : Prop := (a.1 ≤ x.toInt ∧ x.toInt ≤ a.2.1) ∧ (∀ y, a.2.2.1 = some y → ab_kv o lv cs y = some x.toInt) ∧ (∀ q, a.2.2.2 = some q → x.toInt = o q.1 + q.2)
def ab_cv (o : Nat → Int) (lv : ex_L) (cs : ex_C) (a : ab_V) (v : Value) : Prop := match a with
  | .inl k => v = .ref k
  | .inr (.inl i) => ∃ x, v = .int x ∧ ab_ci o lv cs i x
  | .inr (.inr l) => ∃ x, v = .long x ∧ (l.1 ≤ x.toInt ∧ x.toInt ≤ l.2.1) ∧ ∀ q, l.2.2 = some q → x.toInt = o q
def ab_c1 (o : Nat → Int) (a : Option ab_V) (v : Option Value) : Prop := match a with
  | none => ∀ w, v = some w → w.category = 1
  | some (.inl k) => v = some (.ref k)
  | some (.inr (.inl i)) => ∃ x, v = some (.int x) ∧ (i.1 ≤ x.toInt ∧ x.toInt ≤ i.2.1) ∧ (∀ q, i.2.2.2 = some q → x.toInt = o q.1 + q.2)
  | some (.inr (.inr l)) => ∃ x, v = some (.long x) ∧ (l.1 ≤ x.toInt ∧ x.toInt ≤ l.2.1) ∧ ∀ q, l.2.2 = some q → x.toInt = o q
def ab_cl (o : Nat → Int) (al : ab_L) (lv : ex_L) : Prop := al.length = lv.length ∧ ∀ (i : Nat) a, al[i]? = some a → ∃ v, lv[i]? = some v ∧ ab_c1 o a v
def ab_cst (o : Nat → Int) (lv : ex_L) (cs : ex_C) : List ab_V → ex_V → Prop
  | [], st => st = []
  | a :: r, st => ∃ v t, st = v :: t ∧ ab_cv o lv cs a v ∧ ab_cst o lv cs r t
def ab_q1 (o : Nat → Int) (lv : ex_L) (cs : ex_C) (q : ab_Y × Int × Int × Option (Nat × Int)) : Prop := ∃ x, ab_kv o lv cs q.1 = some x ∧ q.2.1 ≤ x ∧ x ≤ q.2.2.1 ∧ ∀ d, q.2.2.2 = some d → x = o d.1 + d.2
def ab_cf (o : Nat → Int) (lv : ex_L) (cs : ex_C) (fc : ab_F) : Prop := ∀ q ∈ fc, ab_q1 o lv cs q
/-- the numbers of the beginning -/
def ab_ob (lv : ex_L) (cs : ex_C) : Nat → Int := fun i => if i < 1000 then (ab_li lv i).getD 0 else if i < 900000000 then (ab_ri cs ((i - 1000) / 1000) ((i - 1000) % 1000)).getD 0 else ab_gh (i - 900000000) (fun k => (ab_li lv k).getD 0) cs
/-- derived numbers, from 1000000000 on: (2, a, b) a + b; (3, a, b) a - b; (4, a, c) a div the constant c; longs: (5, a, b) product, (6, a, b) sum, (7, a, b) quotient; (8, a, _) cut to an int; (9, a, c) a and the constant c, cut; (10, a, b) a + b, cut -/
def ab_dg (t : Nat) (x y : Int) (c : Nat) : Int := match t with
  | 2 => x + y
  | 3 => x - y
  | 4 => x.tdiv (c : Int)
  | 5 => (x * y).bmod (2 ^ 64)
  | 6 => (x + y).bmod (2 ^ 64)
  | 7 => (x.tdiv y).bmod (2 ^ 64)
  | 9 => (x + (c : Int)).bmod (2 ^ 32)
  | 10 => (x + y).bmod (2 ^ 32)
  | 11 => (on_l (Int32.ofInt x) 8).toInt
  | 12 => (bc_J (Int32.ofInt x)).toInt
  | _ => x.bmod (2 ^ 32)
def ab_dx (f : Nat → Int) (vs : List Int) (i : Nat) : Int := if i < 1000000000 then f i else (vs[i - 1000000000]?).getD 0
def ab_dv (f : Nat → Int) : List (Nat × Nat × Nat) → List Int → List Int
  | [], vs => vs
  | e :: r, vs => ab_dv f r (vs ++ [ab_dg e.1 (ab_dx f vs e.2.1) (ab_dx f vs e.2.2) e.2.2])
def ab_oo (lv : ex_L) (cs : ex_C) : Nat → Int := fun i => ab_dx (ab_ob lv cs) (ab_dv (ab_ob lv cs) ab_dt []) i
def ab_fj (e : Nat × Nat × Nat) : List (Nat × Nat × Nat) → Nat → Option Nat
  | [], _ => none
  | q :: r, n => if q = e then some n else ab_fj e r (n + 1)
def ab_di (t a b : Nat) : Option Nat := match ab_fj (t, a, b) ab_dt 0 with
  | some k => if a < 1000000000 + k ∧ (t = 4 ∨ t = 9 ∨ b < 1000000000 + k) then some (1000000000 + k) else none
  | none => none
def ab_d1 (d : Option (Nat × Int)) : Option Nat := match d with
  | some q => if q.2 = 0 then some q.1 else none
  | none => none
def ab_d2 (t : Nat) (a b : Option Nat) : Option Nat := match a, b with
  | some x, some y => ab_di t x y
  | _, _ => none
def ab_sg : List (Nat × Int × Int) → Nat → Int × Int
  | [], _ => (-2147483648, 2147483647)
  | q :: r, j => if j < q.1 then q.2 else ab_sg r (j - q.1)
def ab_ct (t : ab_T) (v : Value) : Prop := match t with
  | .inl k => v = .ref k
  | .inr q => ∃ x : Int32, v = .int x ∧ q.1 ≤ x.toInt ∧ x.toInt ≤ q.2
def ab_ch (h : ab_H) (c : Option va_E) : Prop := match h with
  | .inl q => ∃ fs : List Value, c = some (.inr (q.1, fs)) ∧ fs.length = q.2.length ∧ ∀ (j : Nat) t, q.2[j]? = some t → ∃ v, fs[j]? = some v ∧ ab_ct t v
  | .inr q => ∃ f, c = some (.inl (q.1, q.2.1, .inl f)) ∧ ∀ j, j < q.2.1 → (ab_sg q.2.2 j).1 ≤ (f j).toInt ∧ (f j).toInt ≤ (ab_sg q.2.2 j).2
def ab_hk (hd : List ab_H) (cs : ex_C) : Prop := cs.length = hd.length ∧ ∀ (k : Nat) h, hd[k]? = some h → ab_ch h cs[k]?
def ab_cov (W : ab_W) (k j : Nat) : Bool := W.any (fun w => w.1 == k && (w.2 == none || w.2 == some j))
def ab_fr (W : ab_W) (cs cs' : ex_C) : Prop := ∀ k j, ab_cov W k j = false → ab_rd cs' k j = ab_rd cs k j
def ab_G (hd : List ab_H) (W : ab_W) (o : Nat → Int) (cs0 : ex_C) (al : ab_L) (as : List ab_V) (fc : ab_F) (lv : ex_L) (st : ex_V) (cs : ex_C) : Prop := ab_cl o al lv ∧ ab_cst o lv cs as st ∧ ab_cf o lv cs fc ∧ ab_hk hd cs ∧ ab_fr W cs0 cs
def ab_pre (c : ab_C) (av : ex_V) (cs : ex_C) : Prop := av.length = c.1.length ∧ (∀ (i : Nat) t, c.1[i]? = some t → ∃ v, av[i]? = some v ∧ ab_ct t v) ∧ ab_cf (ab_oo (av.map some) cs) (av.map some) cs c.2.1
def ab_rt (o : Nat → Int) (k : Option (Int × Int × Option (Nat × Int))) (r : Option Value) : Prop := match k with
  | none => r = none
  | some q => ∃ x : Int32, r = some (.int x) ∧ (q.1 ≤ x.toInt ∧ x.toInt ≤ q.2.1) ∧ ∀ d, q.2.2 = some d → x.toInt = o d.1 + d.2
def ab_post (hd : List ab_H) (c : ab_C) (av : ex_V) (cs : ex_C) (r : Option Value) (cs' : ex_C) : Prop := ab_hk hd cs' ∧ ab_fr c.2.2.1 cs cs' ∧ ∃ k ∈ c.2.2.2, ab_rt (ab_oo (av.map some) cs) k.1 r ∧ ab_cf (ab_oo (av.map some) cs) (av.map some) [] k.2.1 ∧ ab_cf (ab_oo (av.map some) cs) [] cs' k.2.2
/-- the contract: any of these ways of calling it -/
def ab_sp (hd : List ab_H) (l : List ab_C) : ex_S := fun av cs Q => ∃ c ∈ l, ab_pre c av cs ∧ ab_hk hd cs ∧ ∀ r cs', ab_post hd c av cs r cs' → Q r cs'
/-! the walk -/
def ab_kp (p : ab_Y → Bool) (a : ab_V) : ab_V := match a with
  | .inr (.inl (lo, hi, some y, dl)) => if p y then .inr (.inl (lo, hi, some y, dl)) else .inr (.inl (lo, hi, none, dl))
  | b => b
def ab_nl (k : Nat) (y : ab_Y) : Bool := match y.1 with
  | 0 => y.2.1 != k
  | 1 => true
  | 2 => y.2.2 != k
  | 3 => y.2.1 != k
  | 4 => y.2.2 != k
  | 5 => y.2.2 != k
  | 6 => y.2.1 != k
  | 7 => y.2.1 != k
  | _ => true
def ab_nw (W : ab_W) (y : ab_Y) : Bool := match y.1 with
  | 1 => !ab_cov W y.2.1 y.2.2
  | 2 => W.all (fun w => w.1 != y.2.1)
  | 4 => !ab_cov W (y.2.1 / 1000) (y.2.1 % 1000)
  | 5 => !ab_cov W (y.2.1 / 1000) (y.2.1 % 1000)
  | _ => true
def ab_lk (y : ab_Y) : ab_F → Int → Int → Int × Int
  | [], lo, hi => (lo, hi)
  | q :: r, lo, hi => if q.1 == y then ab_lk y r (max lo q.2.1) (min hi q.2.2.1) else ab_lk y r lo hi
def ab_lkd (y : ab_Y) : ab_F → Option (Nat × Int)
  | [] => none
  | q :: r => if q.1 == y && q.2.2.2.isSome then q.2.2.2 else ab_lkd y r
def ab_top : ab_I := (-2147483648, 2147483647, none, none)
def ab_cn (z : Int) : ab_I := (z, z, none, none)
def ab_rg (lo hi : Int) (dl : Option (Nat × Int)) : ab_I := if -2147483648 ≤ lo ∧ hi ≤ 2147483647 then (lo, hi, none, dl) else ab_top
def ab_d3 (t : Nat) (x y : Option (Nat × Int)) : Option (Nat × Int) := (ab_d2 t (ab_d1 x) (ab_d1 y)).map (fun q => (q, 0))
def ab_dp (dl : Option (Nat × Int)) (c : ab_I) (s : Int) : Option (Nat × Int) := match dl with
  | some q => if c.1 = c.2.1 then some (q.1, q.2 + s * c.1) else none
  | none => none
def ab_da (x y : ab_I) : Option (Nat × Int) := match ab_dp x.2.2.2 y 1 with
  | some q => some q
  | none => match ab_dp y.2.2.2 x 1 with
    | some q => some q
    | none => ab_d3 2 x.2.2.2 y.2.2.2
def ab_ds (x y : ab_I) : Option (Nat × Int) := match ab_dp x.2.2.2 y (-1) with
  | some q => some q
  | none => ab_d3 3 x.2.2.2 y.2.2.2
/-- a number and a constant, cut -/
def ab_w9 (d : Option Nat) (c : Int) : Option Nat := match d with
  | some a => if c < 0 then none else if a < 1000000000 then ab_di 9 a c.toNat else (match ab_dt[a - 1000000000]? with
    | some (9, b, e) => if b < 1000000000 then ab_di 9 b (e + c.toNat) else none
    | _ => none)
  | none => none
def ab_wa (x y : ab_I) : Option (Nat × Int) := (if y.1 = y.2.1 then ab_w9 (ab_d1 x.2.2.2) y.1 else if x.1 = x.2.1 then ab_w9 (ab_d1 y.2.2.2) x.1 else ab_d2 10 (ab_d1 x.2.2.2) (ab_d1 y.2.2.2)).map (fun q => (q, 0))
def ab_add (x y : ab_I) : ab_I := if -2147483648 ≤ x.1 + y.1 ∧ x.2.1 + y.2.1 ≤ 2147483647 then (x.1 + y.1, x.2.1 + y.2.1, none, ab_da x y) else (-2147483648, 2147483647, none, ab_wa x y)
def ab_adf (fc : ab_F) (x y : ab_I) : ab_I := match x.2.2.1, y.2.2.1 with
  | some (1, k, j), some (0, i, _) => if -2147483648 ≤ x.1 + y.1 ∧ x.2.1 + y.2.1 ≤ 2147483647 ∧ j < 1000 then ((ab_lk (5, 1000 * k + j, i) fc (x.1 + y.1) (x.2.1 + y.2.1)).1, (ab_lk (5, 1000 * k + j, i) fc (x.1 + y.1) (x.2.1 + y.2.1)).2, some (5, 1000 * k + j, i), ab_da x y) else (-2147483648, 2147483647, none, ab_wa x y)
  | _, _ => ab_add x y
def ab_sub (fc : ab_F) (x y : ab_I) : ab_I := match x.2.2.1, y.2.2.1 with
  | some (1, k, j), some (0, i, _) => if -2147483648 ≤ x.1 - y.2.1 ∧ x.2.1 - y.1 ≤ 2147483647 ∧ j < 1000 then ((ab_lk (4, 1000 * k + j, i) fc (x.1 - y.2.1) (x.2.1 - y.1)).1, (ab_lk (4, 1000 * k + j, i) fc (x.1 - y.2.1) (x.2.1 - y.1)).2, some (4, 1000 * k + j, i), ab_ds x y) else ab_top
  | _, _ => ab_rg (x.1 - y.2.1) (x.2.1 - y.1) (ab_ds x y)
def ab_mul (x y : ab_I) : ab_I := if y.1 = y.2.1 ∧ 0 ≤ y.1 then ab_rg (x.1 * y.1) (x.2.1 * y.1) none else if x.1 = x.2.1 ∧ 0 ≤ x.1 then ab_rg (y.1 * x.1) (y.2.1 * x.1) none else ab_top
def ab_nz (lo hi : Int) : Bool := decide (0 < lo ∨ hi < 0)
def ab_div (fc : ab_F) (x y : ab_I) : ab_I := if y.1 = y.2.1 ∧ 0 < y.1 ∧ 0 ≤ x.1 ∧ x.2.1 ≤ 2147483647 then
    match x.2.2.1 with
    | some (0, i, _) => ((ab_lk (6, i, y.1.toNat) fc (x.1 / y.1) (x.2.1 / y.1)).1, (ab_lk (6, i, y.1.toNat) fc (x.1 / y.1) (x.2.1 / y.1)).2, some (6, i, y.1.toNat), (ab_d2 4 (ab_d1 x.2.2.2) (some y.1.toNat)).map (fun q => (q, 0)))
    | _ => ab_rg (x.1 / y.1) (x.2.1 / y.1) none
  else ab_top
def ab_rem (fc : ab_F) (x y : ab_I) : ab_I := if y.1 = y.2.1 ∧ 0 < y.1 then
    match x.2.2.1 with
    | some (0, i, _) => ((ab_lk (3, i, y.1.toNat) fc (if 0 ≤ x.1 then 0 else 1 - y.1) (y.1 - 1)).1, (ab_lk (3, i, y.1.toNat) fc (if 0 ≤ x.1 then 0 else 1 - y.1) (y.1 - 1)).2, some (3, i, y.1.toNat), none)
    | some (6, i, c) => if y.1 < 100000 then ((ab_lk (7, i, c * 100000 + y.1.toNat) fc (if 0 ≤ x.1 then 0 else 1 - y.1) (y.1 - 1)).1, (ab_lk (7, i, c * 100000 + y.1.toNat) fc (if 0 ≤ x.1 then 0 else 1 - y.1) (y.1 - 1)).2, some (7, i, c * 100000 + y.1.toNat), none) else (if 0 ≤ x.1 then 0 else 1 - y.1, y.1 - 1, none, none)
    | _ => (if 0 ≤ x.1 then 0 else 1 - y.1, y.1 - 1, none, none)
  else ab_top
def ab_and (x y : ab_I) : ab_I := if 0 ≤ y.1 then (0, y.2.1, none, none) else if 0 ≤ x.1 then (0, x.2.1, none, none) else ab_top
def ab_or (x y : ab_I) : ab_I := if 0 ≤ x.1 ∧ x.2.1 ≤ 1 ∧ 0 ≤ y.1 ∧ y.2.1 ≤ 1 then (0, 1, none, none) else ab_top
def ab_min (x y : ab_I) : ab_I := (min x.1 y.1, min x.2.1 y.2.1, none, none)
def ab_max (x y : ab_I) : ab_I := (max x.1 y.1, max x.2.1 y.2.1, none, none)
/-- more is known of a key -/
def ab_a8 (dl : Option (Nat × Int)) (lo hi : Int) (fc : ab_F) : ab_F := match dl with
  | some d => if 1000 ≤ d.1 then ((8, d.1, 0), lo - d.2, hi - d.2, none) :: fc else fc
  | none => fc
def ab_rf (al : ab_L) (fc : ab_F) (og : Option ab_Y) (dl : Option (Nat × Int)) (lo hi : Int) (k : ab_L → ab_F → Bool) : Bool := if hi < lo then true else match og with
  | none => k al (ab_a8 dl lo hi fc)
  | some (0, i, _) => (match al[i]? with
    | some (some (.inr (.inl (l, h, g, d)))) => if min h hi < max l lo then true else k (al.set i (some (.inr (.inl (max l lo, min h hi, g, d))))) (ab_a8 dl lo hi fc)
    | _ => k al (ab_a8 dl lo hi fc))
  | some y => k al ((y, lo, hi, ab_lkd y fc) :: ab_a8 dl lo hi fc)
def ab_cmp (c : Nat) (a b e f : Int) : (Int × Int) × (Int × Int) := match c with
  | 0 => ((max a e, min b f), (max a e, min b f))
  | 1 => ((if e = f ∧ a = e then a + 1 else a, if e = f ∧ b = e then b - 1 else b), (if a = b ∧ e = a then e + 1 else e, if a = b ∧ f = a then f - 1 else f))
  | 2 => ((a, min b (f - 1)), (max e (a + 1), f))
  | 3 => ((max a e, b), (e, min f b))
  | 4 => ((max a (e + 1), b), (e, min f (b - 1)))
  | _ => ((a, min b f), (max e a, f))
def ab_df (c : Nat) : Option (Int × Int) := match c with
  | 0 => some (0, 0)
  | 1 => none
  | 2 => some (-4294967296, -1)
  | 3 => some (0, 4294967296)
  | 4 => some (1, 4294967296)
  | _ => some (-4294967296, 0)
def ab_a9 (c : Nat) (x y : Option (Nat × Int)) (fc : ab_F) : ab_F := match x, y, ab_df c with
  | some d, some e, some b => ((9, d.1, e.1), b.1 - d.2 + e.2, b.2 - d.2 + e.2, none) :: fc
  | _, _, _ => fc
def ab_k9 (c : Nat) (ap : Bool) (x y : Option (Nat × Int)) (k : ab_F → Bool) (fc : ab_F) : Bool := if c = 1 ∧ x.isSome ∧ y.isSome ∧ ap = false then k (ab_a9 2 x y fc) && k (ab_a9 4 x y fc) else k (ab_a9 c x y fc)
def ab_br (c : Nat) (x y : ab_I) (al : ab_L) (fc : ab_F) (k : ab_L → ab_F → Bool) : Bool := ab_rf al fc x.2.2.1 x.2.2.2 (ab_cmp c x.1 x.2.1 y.1 y.2.1).1.1 (ab_cmp c x.1 x.2.1 y.1 y.2.1).1.2 (fun al' fc' => ab_rf al' fc' y.2.2.1 y.2.2.2 (ab_cmp c x.1 x.2.1 y.1 y.2.1).2.1 (ab_cmp c x.1 x.2.1 y.1 y.2.1).2.2 (fun al2 fc2 => ab_k9 c (decide (x.2.1 < y.1 ∨ y.2.1 < x.1)) x.2.2.2 y.2.2.2 (k al2) fc2))
def ab_i1 (as : List ab_V) (k : ab_I → List ab_V → Bool) : Bool := match as with
  | .inr (.inl x) :: r => k x r
  | _ => false
def ab_i2 (as : List ab_V) (k : ab_I → ab_I → List ab_V → Bool) : Bool := match as with
  | .inr (.inl y) :: .inr (.inl x) :: r => k x y r
  | _ => false
def ab_l1 (as : List ab_V) (k : Int × Int × Option Nat → List ab_V → Bool) : Bool := match as with
  | .inr (.inr x) :: r => k x r
  | _ => false
def ab_l2 (as : List ab_V) (k : Int × Int × Option Nat → Int × Int × Option Nat → List ab_V → Bool) : Bool := match as with
  | .inr (.inr y) :: .inr (.inr x) :: r => k x y r
  | _ => false
def ab_r1 (as : List ab_V) (k : Nat → List ab_V → Bool) : Bool := match as with
  | .inl a :: r => k a r
  | _ => false
def ab_ir (as : List ab_V) (k : ab_I → Nat → List ab_V → Bool) : Bool := match as with
  | .inr (.inl i) :: .inl a :: r => k i a r
  | _ => false
def ab_iir (as : List ab_V) (k : ab_I → ab_I → Nat → List ab_V → Bool) : Bool := match as with
  | .inr (.inl x) :: .inr (.inl i) :: .inl a :: r => k x i a r
  | _ => false
def ab_vr (as : List ab_V) (k : ab_V → Nat → List ab_V → Bool) : Bool := match as with
  | v :: .inl a :: r => k v a r
  | _ => false
def ab_c5 (as : List ab_V) (k : ab_I → ab_I → Nat → ab_I → Nat → List ab_V → Bool) : Bool := match as with
  | .inr (.inl n) :: .inr (.inl d) :: .inl a :: .inr (.inl s) :: .inl b :: r => k n d a s b r
  | _ => false
def ab_x1 (as : List ab_V) (k : ab_I → Bool) : Bool := match as with
  | [.inr (.inl x)] => k x
  | _ => false
def ab_rok (ret : Option FieldType) (x : ab_I) : Bool := match ret with
  | some .int => true
  | some .boolean => decide (0 ≤ x.1 ∧ x.2.1 ≤ 1)
  | _ => false
def ab_c (a : ab_V) : Nat := match a with
  | .inr (.inr _) => 2
  | _ => 1
def ab_v1 (as : List ab_V) (k : ab_V → List ab_V → Bool) : Bool := match as with
  | a :: r => decide (ab_c a = 1) && k a r
  | _ => false
def ab_v2 (as : List ab_V) (k : ab_V → ab_V → List ab_V → Bool) : Bool := match as with
  | a :: b :: r => decide (ab_c a = 1) && (decide (ab_c b = 1) && k a b r)
  | _ => false
def ab_to (pc : Nat) (off : Int) (k : Nat → Bool) : Bool := decide (0 ≤ (pc : Int) + off) && k ((pc : Int) + off).toNat
def ab_so (al : ab_L) (i : Nat) : Bool := decide (i < al.length) && match i with
  | 0 => true
  | j + 1 => match al[j]? with
    | some (some (.inr (.inr _))) => false
    | _ => true
def ab_obj (hd : List ab_H) (a ci : Nat) (k : List ab_T → Bool) : Bool := match hd[a]? with
  | some (.inl (c, ts)) => decide (c = ci) && k ts
  | _ => false
/-- the bounds of the element at an index -/
def ab_bd (n : Nat) (sg : List (Nat × Int × Int)) (i : ab_I) : Option (Int × Int) := match sg with
  | [q] => if n ≤ q.1 then some q.2 else none
  | l => if i.1 = i.2.1 then some (ab_sg l i.1.toNat) else none
def ab_arr (hd : List ab_H) (a t : Nat) (i : ab_I) (k : Nat → Int → Int → Bool) : Bool := match hd[a]? with
  | some (.inr (t2, n, sg)) => decide (t2 = t) && (match ab_bd n sg i with
    | some b => k n b.1 b.2
    | none => false)
  | _ => false
/-- an array whose elements have one pair of bounds -/
def ab_ar1 (hd : List ab_H) (a t : Nat) (k : Nat → Int → Int → Bool) : Bool := match hd[a]? with
  | some (.inr (t2, n, [(m, lo, hi)])) => decide (t2 = t) && (decide (n ≤ m) && k n lo hi)
  | _ => false
def ab_idx (i : ab_I) (n : Nat) : Bool := decide (0 ≤ i.1 ∧ i.2.1 < (n : Int))
/-- the key of an element -/
def ab_ek (a : Nat) (i : ab_I) : Option ab_Y := if i.1 = i.2.1 then some (1, a, i.1.toNat) else match i.2.2.1 with
  | some (0, l, _) => some (2, a, l)
  | _ => none
def ab_ld (fc : ab_F) (og : Option ab_Y) (lo hi : Int) : ab_I := match og with
  | none => (lo, hi, none, none)
  | some y => ((ab_lk y fc lo hi).1, (ab_lk y fc lo hi).2, some y, ab_lkd y fc)
def ab_sub1 (w : Nat × Option Nat) (W : ab_W) : Bool := W.any (fun w' => w'.1 == w.1 && (w'.2 == none || w'.2 == w.2))
def ab_le (a : ab_V) (t : ab_T) : Bool := match a, t with
  | .inl k, .inl k' => decide (k = k')
  | .inr (.inl x), .inr q => decide (q.1 ≤ x.1) && decide (x.2.1 ≤ q.2)
  | _, _ => false
def ab_les : List ab_V → List ab_T → Bool
  | [], [] => true
  | a :: r, t :: s => ab_le a t && ab_les r s
  | _, _ => false
def ab_prf (fc : ab_F) (args : List ab_V) (q : ab_Y × Int × Int × Option (Nat × Int)) : Bool := q.2.2.2.isNone && match q.1 with
  | (3, i, c) => (match args[i]? with
    | some (.inr (.inl (_, _, some (0, l, _), _))) => fc.any (fun f => f.1 == (3, l, c) && (decide (q.2.1 ≤ f.2.1) && decide (f.2.2.1 ≤ q.2.2.1)))
    | _ => false)
  | (1, k, j) => fc.any (fun f => f.1 == (1, k, j) && (decide (q.2.1 ≤ f.2.1) && decide (f.2.2.1 ≤ q.2.2.1)))
  | _ => false
/-- a ghost of the callee is ours, where it is called with our own parameters and nothing that it reads is written -/
def ab_tg (W : ab_W) (args : List ab_V) (n : Nat) : Option (Nat × Int) := if (List.range (ab_gm n)).all (fun i => match args[i + 1]? with
    | some (.inr (.inl a)) => decide (a.2.2.2 = some (i + 1, 0))
    | _ => false) = true ∧ (ab_gs n).all (fun k => W.all (fun w => w.1 != k)) = true then some (900000000 + n, 0) else none
def ab_t0 (W : ab_W) (args : List ab_V) (fc : ab_F) (i : Nat) : Option (Nat × Int) := if i < 1000 then (match args[i]? with
    | some (.inr (.inl x)) => x.2.2.2
    | _ => none) else if i < 900000000 then ab_lkd (1, (i - 1000) / 1000, (i - 1000) % 1000) fc else if i < 1000000000 then ab_tg W args (i - 900000000) else none
def ab_ta (W : ab_W) (args : List ab_V) (fc : ab_F) (i : Nat) : Option (Nat × Int) := if i < 1000000000 then ab_t0 W args fc i else match ab_dt[i - 1000000000]? with
  | some (2, a, b) => if a < 1000000000 ∧ b < 1000000000 then ab_d3 2 (ab_t0 W args fc a) (ab_t0 W args fc b) else none
  | some (10, a, b) => if a < 1000000000 ∧ b < 1000000000 then ab_d3 10 (ab_t0 W args fc a) (ab_t0 W args fc b) else none
  | some (4, a, c) => if a < 1000000000 then (ab_d2 4 (ab_d1 (ab_t0 W args fc a)) (some c)).map (fun q => (q, 0)) else none
  | some (9, a, c) => if a < 1000000000 then (ab_w9 (ab_d1 (ab_t0 W args fc a)) (c : Int)).map (fun q => (q, 0)) else none
  | _ => none
def ab_td (W : ab_W) (args : List ab_V) (fc : ab_F) (d : Option (Nat × Int)) : Option (Nat × Int) := match d with
  | some d => (match ab_ta W args fc d.1 with
    | some e => some (e.1, e.2 + d.2)
    | none => none)
  | none => none
def ab_app (args : List ab_V) (tau : Nat → Option (Nat × Int)) (k : ab_L → ab_F → Bool) : ab_F → ab_L → ab_F → Bool
  | [], al, fc => k al fc
  | q :: r, al, fc => match q.1 with
    | (0, i, _) => (match args[i]? with
      | some (.inr (.inl x)) => ab_rf al fc x.2.2.1 x.2.2.2 q.2.1 q.2.2.1 (fun al' fc' => ab_app args tau k r al' fc')
      | _ => ab_app args tau k r al fc)
    | (3, i, c) => (match args[i]? with
      | some (.inr (.inl (_, _, some (0, l, _), _))) => ab_app args tau k r al (((3, l, c), q.2.1, q.2.2.1, none) :: fc)
      | _ => ab_app args tau k r al fc)
    | (6, i, c) => (match args[i]? with
      | some (.inr (.inl (_, _, some (0, l, _), _))) => ab_app args tau k r al (((6, l, c), q.2.1, q.2.2.1, none) :: fc)
      | _ => ab_app args tau k r al fc)
    | (7, i, c) => (match args[i]? with
      | some (.inr (.inl (_, _, some (0, l, _), _))) => ab_app args tau k r al (((7, l, c), q.2.1, q.2.2.1, none) :: fc)
      | _ => ab_app args tau k r al fc)
    | (8, i, _) => (match tau i with
      | some d => ab_app args tau k r al (((8, d.1, 0), q.2.1 - d.2, q.2.2.1 - d.2, none) :: fc)
      | none => ab_app args tau k r al fc)
    | (9, i, j) => (match tau i, tau j with
      | some d, some e => ab_app args tau k r al (((9, d.1, e.1), q.2.1 - d.2 + e.2, q.2.2.1 - d.2 + e.2, none) :: fc)
      | _, _ => ab_app args tau k r al fc)
    | _ => ab_app args tau k r al fc
def ab_rv (td : Option (Nat × Int) → Option (Nat × Int)) (r : Option (Int × Int × Option (Nat × Int))) : List ab_V := match r with
  | none => []
  | some q => [.inr (.inl (q.1, q.2.1, none, td q.2.2))]
def ab_fn1 (td : Option (Nat × Int) → Option (Nat × Int)) (fs : ab_F) : ab_F := (fs.filter (fun q => q.1.1 == 1)).map (fun q => (q.1, q.2.1, q.2.2.1, td q.2.2.2))
/-- a call: the first way that fits -/
def ab_call (W : ab_W) (cs : List ab_C) (args rest : List ab_V) (al : ab_L) (fc : ab_F) (k : ab_L → List ab_V → ab_F → Bool) : Bool := match cs.find? (fun c => ab_les args c.1 && c.2.1.all (ab_prf fc args)) with
  | some c => c.2.2.1.all (fun w => ab_sub1 w W) && c.2.2.2.all (fun s => ab_app (args.map (ab_kp (ab_nw c.2.2.1))) (ab_ta W args fc) (fun al' fc' => k al' (ab_rv (ab_td W args fc) s.1 ++ rest.map (ab_kp (ab_nw c.2.2.1))) (ab_fn1 (ab_td W args fc) s.2.2 ++ fc')) s.2.1 al (fc.filter (fun q => ab_nw c.2.2.1 q.1)))
  | none => false
def ab_sum (as : List ab_V) : Bool := decide ((as.map ab_c).sum ≤ 8)
def ab_fit (ty : FieldType) (v : ab_V) : Bool := match ty, v with
  | .int, .inr (.inl _) => true
  | .long, .inr (.inr _) => true
  | .boolean, .inr (.inl x) => decide (0 ≤ x.1) && decide (x.2.1 ≤ 1)
  | .object _, .inl _ => true
  | .array _, .inl _ => true
  | _, _ => false
def ab_set (al : ab_L) (k : Nat) (x : ab_I) : ab_L := al.set k (some (.inr (.inl (x.1, x.2.1, none, x.2.2.2))))
def ab_tb (x : ab_I) (k : Int → Int → Bool) : Int → List Int → Bool
  | _, [] => true
  | lo, o :: r => (if x.1 ≤ (Int32.ofInt lo).toInt ∧ (Int32.ofInt lo).toInt ≤ x.2.1 then k (Int32.ofInt lo).toInt o else true) && ab_tb x k (lo + 1) r
def ab_lks (x : ab_I) (k : Int → Int → Bool) : List (Int × Int) → Bool
  | [] => true
  | q :: r => (if x.1 ≤ (Int32.ofInt q.1).toInt ∧ (Int32.ofInt q.1).toInt ≤ x.2.1 then k (Int32.ofInt q.1).toInt q.2 else true) && ab_lks x k r
def ab_gi (al : ab_L) (k : Nat) (f : ab_I → Bool) : Bool := match al[k]? with
  | some (some (.inr (.inl x))) => f x
  | _ => false
def ab_gl (al : ab_L) (k : Nat) (f : Int × Int × Option Nat → Bool) : Bool := match al[k]? with
  | some (some (.inr (.inr x))) => f x
  | _ => false
def ab_gr (al : ab_L) (k : Nat) (f : Nat → Bool) : Bool := match al[k]? with
  | some (some (.inl x)) => f x
  | _ => false
def ab_o {α : Type} (x : Option α) (f : α → Bool) : Bool := match x with
  | some a => f a
  | none => false
abbrev ab_n (x : ab_I) : ab_V := .inr (.inl x)
abbrev ab_lt (d : Option Nat) : ab_V := .inr (.inr (-9223372036854775808, 9223372036854775807, d))
def ab_st (al : ab_L) (as : List ab_V) (fc : ab_F) (k : Nat) (K : ab_L → List ab_V → ab_F → Bool) : Bool := ab_i1 as (fun x r => ab_so al k && K (ab_set al k x) (r.map (ab_kp (ab_nl k))) (fc.filter (fun q => ab_nl k q.1)))
def ab_sr (al : ab_L) (as : List ab_V) (fc : ab_F) (k : Nat) (K : ab_L → List ab_V → ab_F → Bool) : Bool := ab_r1 as (fun x r => ab_so al k && K (al.set k (some (.inl x))) (r.map (ab_kp (ab_nl k))) (fc.filter (fun q => ab_nl k q.1)))
def ab_sl (al : ab_L) (as : List ab_V) (fc : ab_F) (k : Nat) (K : ab_L → List ab_V → ab_F → Bool) : Bool := ab_l1 as (fun x r => ab_so al k && (decide (k + 1 < al.length) && K ((al.set k (some (.inr (.inr x)))).set (k + 1) none) (r.map (ab_kp (fun y => ab_nl k y && ab_nl (k + 1) y))) (fc.filter (fun q => ab_nl k q.1 && ab_nl (k + 1) q.1))))
/-- a write: the place, the slot if it is one -/
def ab_wr (W : ab_W) (w : Nat × Option Nat) (r : List ab_V) (fc : ab_F) (K : List ab_V → ab_F → Bool) : Bool := ab_sub1 w W && K (r.map (ab_kp (ab_nw [w]))) (fc.filter (fun q => ab_nw [w] q.1))
def ab_wk (i : ab_I) : Option Nat := if i.1 = i.2.1 then some i.1.toNat else none
def ab_cj (c c' : Nat) (pc : Nat) (off : Int) (x y : ab_I) (al : ab_L) (fc : ab_F) (K : Nat → ab_L → ab_F → Bool) : Bool := ab_to pc off (fun t => ab_br c x y al fc (K t) && ab_br c' x y al fc (K (pc + 3)))
def ab_wf (a : Nat) (i x : ab_I) (fc : ab_F) : ab_F := if i.1 = i.2.1 then ((1, a, i.1.toNat), x.1, x.2.1, x.2.2.2) :: fc else fc
/-- an element of a static array -/
def ab_xe (q : Nat × Int × Int × List Int) (i : ab_I) : ab_I := if i.1 = i.2.1 then (match q.2.2.2[i.1.toNat]? with
    | some v => (v, v, none, none)
    | none => (q.2.1, q.2.2.1, none, none)) else (q.2.1, q.2.2.1, none, none)
/-- one instruction -/
def ab_i (hd : List ab_H) (xs : List (Nat × Int × Int × List Int)) (cx : ex_K) (cm : Nat → Option (Nat × Option Nat × List ab_C)) (ret : Option FieldType) (W : ab_W) (E : Option ab_I → ab_L → ab_F → Bool) (i : Instr) (len pc : Nat) (al : ab_L) (as : List ab_V) (fc : ab_F) (K : Nat → ab_L → List ab_V → ab_F → Bool) : Bool := match i with
  | .iconst n => decide (len = 1) && K (pc + 1) al (ab_n (ab_cn (Int32.ofInt n).toInt) :: as) fc
  | .bipush n => decide (len = 2) && K (pc + 2) al (ab_n (ab_cn (Int8.ofInt n).toInt32.toInt) :: as) fc
  | .sipush n => decide (len = 3) && K (pc + 3) al (ab_n (ab_cn (Int16.ofInt n).toInt32.toInt) :: as) fc
  | .ldc ix => decide (len = 2) && ab_o (cx.2.2.1 ix) (fun v => K (pc + 2) al (ab_n (ab_cn v.toInt) :: as) fc)
  | .ldc_w ix => decide (len = 3) && ab_o (cx.2.2.1 ix) (fun v => K (pc + 3) al (ab_n (ab_cn v.toInt) :: as) fc)
  | .ldc2_w ix => decide (len = 3) && ab_o (cx.2.2.2.2.2.2 ix) (fun v => K (pc + 3) al (.inr (.inr (v.toInt, v.toInt, none)) :: as) fc)
  | .lconst n => decide (len = 1) && K (pc + 1) al (.inr (.inr ((Int64.ofNat n).toInt, (Int64.ofNat n).toInt, none)) :: as) fc
  | .iload_n k => decide (len = 1) && ab_gi al k (fun x => K (pc + 1) al (ab_n (x.1, x.2.1, some (0, k, 0), x.2.2.2) :: as) fc)
  | .iload k => decide (len = 2) && ab_gi al k (fun x => K (pc + 2) al (ab_n (x.1, x.2.1, some (0, k, 0), x.2.2.2) :: as) fc)
  | .lload_n k => decide (len = 1) && ab_gl al k (fun x => K (pc + 1) al (.inr (.inr x) :: as) fc)
  | .lload k => decide (len = 2) && ab_gl al k (fun x => K (pc + 2) al (.inr (.inr x) :: as) fc)
  | .aload_n k => decide (len = 1) && ab_gr al k (fun x => K (pc + 1) al (.inl x :: as) fc)
  | .aload k => decide (len = 2) && ab_gr al k (fun x => K (pc + 2) al (.inl x :: as) fc)
  | .istore_n k => decide (len = 1) && ab_st al as fc k (K (pc + 1))
  | .istore k => decide (len = 2) && ab_st al as fc k (K (pc + 2))
  | .astore_n k => decide (len = 1) && ab_sr al as fc k (K (pc + 1))
  | .astore k => decide (len = 2) && ab_sr al as fc k (K (pc + 2))
  | .lstore_n k => decide (len = 1) && ab_sl al as fc k (K (pc + 1))
  | .lstore k => decide (len = 2) && ab_sl al as fc k (K (pc + 2))
  | .iinc k n => decide (len = 3) && ab_gi al k (fun x => ab_so al k && K (pc + 3) (ab_set al k (ab_add x (ab_cn (Int32.ofInt n).toInt))) (as.map (ab_kp (ab_nl k))) (fc.filter (fun q => ab_nl k q.1)))
  | .iadd => decide (len = 1) && ab_i2 as (fun x y r => K (pc + 1) al (ab_n (ab_adf fc x y) :: r) fc)
  | .isub => decide (len = 1) && ab_i2 as (fun x y r => K (pc + 1) al (ab_n (ab_sub fc x y) :: r) fc)
  | .imul => decide (len = 1) && ab_i2 as (fun x y r => K (pc + 1) al (ab_n (ab_mul x y) :: r) fc)
  | .iand => decide (len = 1) && ab_i2 as (fun x y r => K (pc + 1) al (ab_n (ab_and x y) :: r) fc)
  | .ior => decide (len = 1) && ab_i2 as (fun x y r => K (pc + 1) al (ab_n (ab_or x y) :: r) fc)
  | .ixor => decide (len = 1) && ab_i2 as (fun _ _ r => K (pc + 1) al (ab_n ab_top :: r) fc)
  | .ishl => decide (len = 1) && ab_i2 as (fun _ _ r => K (pc + 1) al (ab_n ab_top :: r) fc)
  | .ishr => decide (len = 1) && ab_i2 as (fun _ _ r => K (pc + 1) al (ab_n ab_top :: r) fc)
  | .iushr => decide (len = 1) && ab_i2 as (fun _ _ r => K (pc + 1) al (ab_n ab_top :: r) fc)
  | .idiv => decide (len = 1) && ab_i2 as (fun x y r => ab_nz y.1 y.2.1 && K (pc + 1) al (ab_n (ab_div fc x y) :: r) fc)
  | .irem => decide (len = 1) && ab_i2 as (fun x y r => ab_nz y.1 y.2.1 && K (pc + 1) al (ab_n (ab_rem fc x y) :: r) fc)
  | .ineg => decide (len = 1) && ab_i1 as (fun _ r => K (pc + 1) al (ab_n ab_top :: r) fc)
  | .i2l => decide (len = 1) && ab_i1 as (fun x r => K (pc + 1) al (.inr (.inr (x.1, x.2.1, ab_d1 x.2.2.2)) :: r) fc)
  | .l2i => decide (len = 1) && ab_l1 as (fun x r => K (pc + 1) al (ab_n (-2147483648, 2147483647, none, (ab_d2 8 x.2.2 (some 0)).map (fun q => (q, 0))) :: r) fc)
  | .ladd => decide (len = 1) && ab_l2 as (fun x y r => K (pc + 1) al (ab_lt (ab_d2 6 x.2.2 y.2.2) :: r) fc)
  | .lsub => decide (len = 1) && ab_l2 as (fun _ _ r => K (pc + 1) al (ab_lt none :: r) fc)
  | .lmul => decide (len = 1) && ab_l2 as (fun x y r => K (pc + 1) al (ab_lt (ab_d2 5 x.2.2 y.2.2) :: r) fc)
  | .ldiv => decide (len = 1) && ab_l2 as (fun x y r => ab_nz y.1 y.2.1 && K (pc + 1) al (ab_lt (ab_d2 7 x.2.2 y.2.2) :: r) fc)
  | .dup => decide (len = 1) && ab_v1 as (fun v r => K (pc + 1) al (v :: v :: r) fc)
  | .pop => decide (len = 1) && ab_v1 as (fun _ r => K (pc + 1) al r fc)
  | .dup_x1 => decide (len = 1) && ab_v2 as (fun v w r => K (pc + 1) al (v :: w :: v :: r) fc)
  | .dup2 => decide (len = 1) && ab_v2 as (fun v w r => K (pc + 1) al (v :: w :: v :: w :: r) fc)
  | .ifCond .eq off => decide (len = 3) && ab_i1 as (fun x r => ab_cj 0 1 pc off x (ab_cn 0) al fc (fun t al' fc' => K t al' r fc'))
  | .ifCond .ne off => decide (len = 3) && ab_i1 as (fun x r => ab_cj 1 0 pc off x (ab_cn 0) al fc (fun t al' fc' => K t al' r fc'))
  | .ifCond .lt off => decide (len = 3) && ab_i1 as (fun x r => ab_cj 2 3 pc off x (ab_cn 0) al fc (fun t al' fc' => K t al' r fc'))
  | .ifCond .ge off => decide (len = 3) && ab_i1 as (fun x r => ab_cj 3 2 pc off x (ab_cn 0) al fc (fun t al' fc' => K t al' r fc'))
  | .ifCond .gt off => decide (len = 3) && ab_i1 as (fun x r => ab_cj 4 5 pc off x (ab_cn 0) al fc (fun t al' fc' => K t al' r fc'))
  | .ifCond .le off => decide (len = 3) && ab_i1 as (fun x r => ab_cj 5 4 pc off x (ab_cn 0) al fc (fun t al' fc' => K t al' r fc'))
  | .if_icmp .eq off => decide (len = 3) && ab_i2 as (fun x y r => ab_cj 0 1 pc off x y al fc (fun t al' fc' => K t al' r fc'))
  | .if_icmp .ne off => decide (len = 3) && ab_i2 as (fun x y r => ab_cj 1 0 pc off x y al fc (fun t al' fc' => K t al' r fc'))
  | .if_icmp .lt off => decide (len = 3) && ab_i2 as (fun x y r => ab_cj 2 3 pc off x y al fc (fun t al' fc' => K t al' r fc'))
  | .if_icmp .ge off => decide (len = 3) && ab_i2 as (fun x y r => ab_cj 3 2 pc off x y al fc (fun t al' fc' => K t al' r fc'))
  | .if_icmp .gt off => decide (len = 3) && ab_i2 as (fun x y r => ab_cj 4 5 pc off x y al fc (fun t al' fc' => K t al' r fc'))
  | .if_icmp .le off => decide (len = 3) && ab_i2 as (fun x y r => ab_cj 5 4 pc off x y al fc (fun t al' fc' => K t al' r fc'))
  | .goto off => decide (len = 3) && ab_to pc off (fun t => K t al as fc)
  | .tableswitch dflt lo hi offs => decide (hi = lo + offs.size - 1) && ab_i1 as (fun x r => (if lo ≤ x.1 ∧ x.2.1 ≤ hi then true else ab_to pc dflt (fun t => K t al r fc)) && ab_tb x (fun z o => ab_to pc o (fun t => ab_rf al fc x.2.2.1 x.2.2.2 z z (fun al' fc' => K t al' r fc'))) lo offs.toList)
  | .lookupswitch dflt ps => (ps.toList.zip (ps.toList.drop 1)).all (fun (a, next) => a.1 < next.1) && (ps.toList.all (fun q => decide (-2147483648 ≤ q.1 ∧ q.1 < 2147483648)) && ab_i1 as (fun x r => ab_to pc dflt (fun t => K t al r fc) && ab_lks x (fun z o => ab_to pc o (fun t => ab_rf al fc x.2.2.1 x.2.2.2 z z (fun al' fc' => K t al' r fc'))) ps.toList))
  | .getfield ix => decide (len = 3) && ab_r1 as (fun a r => ab_o (cx.2.1 ix) (fun q => ab_obj hd a q.1 (fun ts => ab_o ts[q.2.1]? (fun t => match t with
    | .inl k => K (pc + 3) al (.inl k :: r) fc
    | .inr b => K (pc + 3) al (ab_n (ab_ld fc (some (1, a, q.2.1)) b.1 b.2) :: r) fc))))
  | .putfield ix => decide (len = 3) && ab_vr as (fun v a r => ab_o (cx.2.1 ix) (fun q => ab_obj hd a q.1 (fun ts => ab_o ts[q.2.1]? (fun t => ab_le v t && (q.2.2.1 && (ab_fit q.2.2.2 v && ab_wr W (a, some q.2.1) r fc (fun r' fc' => match v with
      | .inr (.inl x) => K (pc + 3) al r' (((1, a, q.2.1), x.1, x.2.1, x.2.2.2) :: fc')
      | _ => K (pc + 3) al r' fc')))))))
  | .getstatic ix => decide (len = 3) && ab_o (cx.2.2.2.1 ix) (fun j => K (pc + 3) al (.inl (1000 + j) :: as) fc)
  | .iaload => decide (len = 1) && ab_ir as (fun i a r => if 1000 ≤ a then ab_o xs[a - 1000]? (fun q => ab_idx i q.1 && K (pc + 1) al (ab_n (ab_xe q i) :: r) fc) else ab_arr hd a 0 i (fun n lo hi => ab_idx i n && K (pc + 1) al (ab_n (ab_ld fc (ab_ek a i) lo hi) :: r) fc))
  | .baload => decide (len = 1) && ab_ir as (fun i a r => ab_arr hd a 1 i (fun n lo hi => ab_idx i n && K (pc + 1) al (ab_n (ab_ld fc (ab_ek a i) lo hi) :: r) fc))
  | .iastore => decide (len = 1) && ab_iir as (fun x i a r => ab_arr hd a 0 i (fun n lo hi => ab_idx i n && (decide (lo ≤ x.1 ∧ x.2.1 ≤ hi) && ab_wr W (a, ab_wk i) r fc (fun r' fc' => K (pc + 1) al r' (ab_wf a i x fc')))))
  | .bastore => decide (len = 1) && ab_iir as (fun x i a r => ab_arr hd a 1 i (fun n lo hi => ab_idx i n && (decide (lo ≤ x.1 ∧ x.2.1 ≤ hi) && (decide (0 ≤ x.1 ∧ x.2.1 ≤ 1) && ab_wr W (a, ab_wk i) r fc (K (pc + 1) al)))))
  | .arraylength => decide (len = 1) && ab_r1 as (fun a r => match hd[a]? with
    | some (.inr (t, n, _)) => decide (t = 0 ∨ t = 1) && (decide (n < 2147483648) && K (pc + 1) al (ab_n (ab_cn n) :: r) fc)
    | _ => false)
  | .invokevirtual ix => decide (len = 3) && ab_o (cm ix) (fun q => decide (1 ≤ q.1 ∧ q.1 ≤ as.length) && (ab_sum (as.drop q.1) && ab_o q.2.1 (fun ci => match as[q.1 - 1]? with
    | some (.inl a) => ab_obj hd a ci (fun _ => ab_call W q.2.2 (as.take q.1).reverse (as.drop q.1) al fc (K (pc + 3)))
    | _ => false)))
  | .invokestatic ix => decide (len = 3) && (match cx.2.2.2.2.2.1 ix with
    | 1 => ab_c5 as (fun n dp a sp a0 r => ab_ar1 hd a0 0 (fun n0 lo0 hi0 => ab_ar1 hd a 0 (fun n1 lo hi => decide (sp.1 = 0 ∧ sp.2.1 = 0 ∧ dp.1 = 0 ∧ dp.2.1 = 0 ∧ 0 ≤ n.1 ∧ n.2.1 ≤ n0 ∧ n.2.1 ≤ n1 ∧ lo ≤ lo0 ∧ hi0 ≤ hi) && (ab_sum r && ab_wr W (a, none) r fc (K (pc + 3) al)))))
    | 2 => ab_i2 as (fun x y r => ab_sum r && K (pc + 3) al (ab_n (ab_min x y) :: r) fc)
    | 3 => ab_i2 as (fun x y r => ab_sum r && K (pc + 3) al (ab_n (ab_max x y) :: r) fc)
    | _ => ab_o (cm ix) (fun q => decide (q.1 ≤ as.length) && (ab_sum (as.drop q.1) && (decide (q.2.1 = none) && ab_call W q.2.2 (as.take q.1).reverse (as.drop q.1) al fc (K (pc + 3))))))
  | .ireturn => decide (len = 1) && ab_x1 as (fun x => ab_rok ret x && E (some x) al fc)
  | .return_ => decide (len = 1) && (decide (ret = none) && (as.isEmpty && E none al fc))
  | _ => false
/-- the value at a depth of the stack, one by one; or (depth + 1000 (c + 2147483649)) in three: below, at and above c -/
def ab_spp (d : Nat) (x : ab_I) (lo hi : Int) (al : ab_L) (as : List ab_V) (fc : ab_F) (k : ab_L → List ab_V → ab_F → Bool) : Bool := decide (hi < lo) || ab_rf al fc x.2.2.1 x.2.2.2 lo hi (fun al' fc' => k al' (as.set d (.inr (.inl (lo, hi, x.2.2.1, x.2.2.2)))) fc')
def ab_spl (d : Nat) (al : ab_L) (as : List ab_V) (fc : ab_F) (k : ab_L → List ab_V → ab_F → Bool) : Bool := match as[d % 1000]? with
  | some (.inr (.inl x)) => if d < 1000 then (List.range (x.2.1 - x.1 + 1).toNat).all (fun j => ab_spp (d % 1000) x (x.1 + (j : Int)) (x.1 + (j : Int)) al as fc k) else
    ab_spp (d % 1000) x x.1 (min x.2.1 (((d / 1000 : Nat) : Int) - 2147483650)) al as fc k && (ab_spp (d % 1000) x (max x.1 (((d / 1000 : Nat) : Int) - 2147483649)) (min x.2.1 (((d / 1000 : Nat) : Int) - 2147483649)) al as fc k && ab_spp (d % 1000) x (max x.1 (((d / 1000 : Nat) : Int) - 2147483648)) x.2.1 al as fc k)
  | _ => false
def ab_sps : List (Nat × Nat) → ab_L → List ab_V → ab_F → (ab_L → List ab_V → ab_F → Bool) → Bool
  | [], al, as, fc, k => k al as fc
  | s :: r, al, as, fc, k => ab_spl s.2 al as fc (fun al' as' fc' => ab_sps r al' as' fc' k)
def ab_wp (hd : List ab_H) (xs : List (Nat × Int × Int × List Int)) (sp : List (Nat × Nat)) (cx : ex_K) (cm : Nat → Option (Nat × Option Nat × List ab_C)) (code : List (Nat × Instr × Nat)) (ret : Option FieldType) (W : ab_W) (E : Option ab_I → ab_L → ab_F → Bool) (J : Nat → Option (ab_L → List ab_V → ab_F → Bool)) : Nat → Nat → ab_L → List ab_V → ab_F → Bool
  | 0, _, _, _, _ => false
  | n + 1, pc, al, as, fc => match code.find? (fun q => q.1 == pc) with
    | some q => ab_sps (sp.filter (fun s => s.1 == pc)) al as fc (fun al0 as0 fc0 => ab_i hd xs cx cm ret W E q.2.1 q.2.2 pc al0 as0 fc0 (fun pc' al' as' fc' => match J pc' with
      | some ch => ch al' as' fc'
      | none => ab_wp hd xs sp cx cm code ret W E J n pc' al' as' fc'))
    | none => false

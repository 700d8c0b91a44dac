/-! ROWS FOR CONSTRUCTORS' WALKS -/
section WN
variable {cx : ex_K} {al : ex_J} {cc : ByteArray} {mc ms : Nat} {Q : ex_C → Nat → Nat → Prop} {n pc p' kc ks : Nat} {lv : ex_L} {st : ex_V} {cs : ex_C}
theorem wn_iconst {k : Int} {v : Int32} (hd : decode cc pc = .ok (.iconst k, 1)) (hv : Int32.ofInt k = v) (hp : pc + 1 = p') (h : ex_wn cx al cc mc ms Q n p' lv (.int v :: st) cs kc ks) : ex_wn cx al cc mc ms Q (n + 1) pc lv st cs kc ks := by
  subst hp
  unfold ex_wn
  rw [hd]
  subst hv; exact ⟨rfl, h⟩
theorem wn_bipush {k : Int} {v : Int32} (hd : decode cc pc = .ok (.bipush k, 2)) (hv : (Int8.ofInt k).toInt32 = v) (hp : pc + 2 = p') (h : ex_wn cx al cc mc ms Q n p' lv (.int v :: st) cs kc ks) : ex_wn cx al cc mc ms Q (n + 1) pc lv st cs kc ks := by
  subst hp
  unfold ex_wn
  rw [hd]
  subst hv; exact ⟨rfl, h⟩
theorem wn_sipush {k : Int} {v : Int32} (hd : decode cc pc = .ok (.sipush k, 3)) (hv : (Int16.ofInt k).toInt32 = v) (hp : pc + 3 = p') (h : ex_wn cx al cc mc ms Q n p' lv (.int v :: st) cs kc ks) : ex_wn cx al cc mc ms Q (n + 1) pc lv st cs kc ks := by
  subst hp
  unfold ex_wn
  rw [hd]
  subst hv; exact ⟨rfl, h⟩
theorem wn_ldc {ix : Nat} {v : Int32} (hd : decode cc pc = .ok (.ldc ix, 2)) (hv : cx.2.2.1 ix = some v) (hp : pc + 2 = p') (h : ex_wn cx al cc mc ms Q n p' lv (.int v :: st) cs kc ks) : ex_wn cx al cc mc ms Q (n + 1) pc lv st cs kc ks := by
  subst hp
  unfold ex_wn
  rw [hd]
  exact ⟨rfl, by rw [hv]; exact h⟩
theorem wn_aload_n {k : Fin 4} {x : Nat} (hd : decode cc pc = .ok (.aload_n k, 1)) (hv : lv[(k : Nat)]? = some (some (.ref x))) (hp : pc + 1 = p') (h : ex_wn cx al cc mc ms Q n p' lv (.ref x :: st) cs kc ks) : ex_wn cx al cc mc ms Q (n + 1) pc lv st cs kc ks := by
  subst hp
  unfold ex_wn
  rw [hd]
  exact ⟨rfl, by unfold ex_gr; rw [hv]; exact h⟩
theorem wn_dup {v : Value} (hd : decode cc pc = .ok (.dup, 1)) (h1 : v.category = 1) (hp : pc + 1 = p') (h : ex_wn cx al cc mc ms Q n p' lv (v :: v :: st) cs kc ks) : ex_wn cx al cc mc ms Q (n + 1) pc lv (v :: st) cs kc ks := by
  subst hp
  unfold ex_wn
  rw [hd]
  exact ⟨rfl, h1, h⟩
theorem wn_getfield {ix ci k a : Nat} {b : Bool} {ty : FieldType} {fs : List Value} {v : Value} (hd : decode cc pc = .ok (.getfield ix, 3)) (hq : cx.2.1 ix = some (ci, k, b, ty)) (ho : cs[a]? = some (.inr (ci, fs))) (hv : fs[k]? = some v) (hp : pc + 3 = p') (h : ex_wn cx al cc mc ms Q n p' lv (v :: st) cs kc ks) : ex_wn cx al cc mc ms Q (n + 1) pc lv (.ref a :: st) cs kc ks := by
  subst hp
  unfold ex_wn
  rw [hd]
  exact ⟨rfl, by show ex_o _ _; rw [hq]; show ex_ob _ _ _ _; unfold ex_ob; rw [ho]; refine ⟨rfl, ?_⟩; show ex_o _ _; rw [hv]; exact h⟩
theorem wn_iastore {a m : Nat} {f f' : Nat → Int32} {i x : Int32} {cs' : ex_C} (hd : decode cc pc = .ok (.iastore, 1)) (ho : cs[a]? = some (.inl (0, m, .inl f))) (hi : vp_in i m) (hf : upd f i.toNatClampNeg x = f') (hc : cs.set a (.inl (0, m, .inl f')) = cs') (hp : pc + 1 = p') (h : ex_wn cx al cc mc ms Q n p' lv st cs' kc ks) : ex_wn cx al cc mc ms Q (n + 1) pc lv (.int x :: .int i :: .ref a :: st) cs kc ks := by
  subst hp
  unfold ex_wn
  rw [hd]
  subst hc; subst hf; refine ⟨rfl, ?_⟩; show ex_ar _ _ _ _; unfold ex_ar; rw [ho]; exact ⟨rfl, hi, h⟩
theorem wn_putfield {ix ci k a : Nat} {b : Bool} {ty : FieldType} {fs fs' : List Value} {v : Value} {cs' : ex_C} (hd : decode cc pc = .ok (.putfield ix, 3)) (hq : cx.2.1 ix = some (ci, k, b, ty)) (ho : cs[a]? = some (.inr (ci, fs))) (hk : k < fs.length) (hf : ex_fit ty v) (hfs : fs.set k v = fs') (hc : cs.set a (.inr (ci, fs')) = cs') (hp : pc + 3 = p') (h : ex_wn cx al cc mc ms Q n p' lv st cs' kc ks) : ex_wn cx al cc mc ms Q (n + 1) pc lv (v :: .ref a :: st) cs kc ks := by
  subst hp
  unfold ex_wn
  rw [hd]
  subst hc; subst hfs; refine ⟨rfl, ?_⟩; show ex_o _ _; rw [hq]; show ex_ob _ _ _ _; unfold ex_ob; rw [ho]; exact ⟨rfl, hk, hf, h⟩
theorem wn_new {ix ci N kc' ks' z : Nat} {fs : List Value} {cs' : ex_C} (hd : decode cc pc = .ok (.new ix, 3)) (hq : al.1 ix = some (ci, fs, N)) (hcl : ex_clo cs.length lv st cs = true) (hz : cs.length = z) (hk : kc + 1 = kc' ∧ ks + N = ks' ∧ kc' ≤ mc ∧ ks' ≤ ms) (hc : cs ++ [.inr (ci, fs)] = cs') (hp : pc + 3 = p') (h : ex_wn cx al cc mc ms Q n p' lv (.ref z :: st) cs' kc' ks') : ex_wn cx al cc mc ms Q (n + 1) pc lv st cs kc ks := by
  subst hp; subst hz; subst hc
  obtain ⟨rfl, rfl, h1, h2⟩ := hk
  unfold ex_wn
  rw [hd]
  refine ⟨rfl, ?_⟩
  rw [hq]
  exact ⟨hcl, h1, h2, h⟩
theorem wn_newarray {t : ArrayType} {tag N kc' ks' z : Nat} {x : Int32} {cs' : ex_C} (hd : decode cc pc = .ok (.newarray t, 2)) (ht : ex_at t = some tag) (hx : ¬ x < 0 ∧ x.toNatClampNeg = N ∧ N ≤ 1000) (hcl : ex_clo cs.length lv st cs = true) (hz : cs.length = z) (hk : kc + 1 = kc' ∧ ks + N = ks' ∧ kc' ≤ mc ∧ ks' ≤ ms) (hc : cs ++ [.inl (tag, N, .inl (fun _ => 0))] = cs') (hp : pc + 2 = p') (h : ex_wn cx al cc mc ms Q n p' lv (.ref z :: st) cs' kc' ks') : ex_wn cx al cc mc ms Q (n + 1) pc lv (.int x :: st) cs kc ks := by
  subst hp; subst hz; subst hc
  obtain ⟨hx0, rfl, hx1⟩ := hx
  obtain ⟨rfl, rfl, h1, h2⟩ := hk
  unfold ex_wn
  rw [hd]
  refine ⟨rfl, ?_⟩
  rw [ht]
  exact ⟨hx0, hx1, hcl, h1, h2, h⟩
theorem wn_object {ix a : Nat} (hd : decode cc pc = .ok (.invokespecial ix, 3)) (hq : al.2 ix = some none) (hs : (st.map (fun v => v.category)).sum ≤ 8) (hp : pc + 3 = p') (h : ex_wn cx al cc mc ms Q n p' lv st cs kc ks) : ex_wn cx al cc mc ms Q (n + 1) pc lv (.ref a :: st) cs kc ks := by
  subst hp
  unfold ex_wn
  rw [hd]
  refine ⟨rfl, ?_⟩
  rw [hq]
  exact ⟨hs, h⟩
theorem wn_ctor {ix q a mc' ms' kc' ks' : Nat} {sp : ex_SN} {av r : ex_V} (hd : decode cc pc = .ok (.invokespecial ix, 3)) (hq : al.2 ix = some (some (q, mc', ms', sp))) (hn : q ≤ st.length) (hg : st[q - 1]? = some (.ref a)) (hav : (st.take q).reverse = av) (hr : st.drop q = r) (hs : (r.map (fun v => v.category)).sum ≤ 8) (hcl : ex_clo cs.length lv st cs = true) (hk : kc + mc' = kc' ∧ ks + ms' = ks' ∧ kc' ≤ mc ∧ ks' ≤ ms) (hp : pc + 3 = p') (h : sp av cs (fun cs' => cs.length ≤ cs'.length ∧ ex_wn cx al cc mc ms Q n p' lv r cs' kc' ks')) : ex_wn cx al cc mc ms Q (n + 1) pc lv st cs kc ks := by
  subst hp; subst hav; subst hr
  obtain ⟨rfl, rfl, h1, h2⟩ := hk
  unfold ex_wn
  rw [hd]
  refine ⟨rfl, ?_⟩
  rw [hq]
  refine ⟨hn, hs, hcl, h1, h2, ?_⟩
  show ex_o _ _
  rw [hg]
  exact h
theorem wn_return (hd : decode cc pc = .ok (.return_, 1)) (h : Q cs kc ks) : ex_wn cx al cc mc ms Q (n + 1) pc lv [] cs kc ks := by
  unfold ex_wn
  rw [hd]
  exact ⟨rfl, rfl, h⟩
end WN
def ex_sn (cx : ex_K) (al : ex_J) (cc : ByteArray) (maxL mc ms fuel : Nat) : ex_SN := fun av cs Q => av.all (fun w => w.category == 1) = true ∧ av.length ≤ maxL ∧ ex_wn cx al cc mc ms (fun cs' _ _ => Q cs') fuel 0 (ex_l0 av maxL) [] cs 0 0
theorem sn_in {cx : ex_K} {al : ex_J} {cc : ByteArray} {maxL mc ms fuel : Nat} {av : ex_V} {lv : ex_L} {cs : ex_C} {Q : ex_C → Prop} (h1 : av.all (fun w => w.category == 1) = true) (h2 : av.length ≤ maxL) (hl : ex_l0 av maxL = lv) (h : ex_wn cx al cc mc ms (fun cs' _ _ => Q cs') fuel 0 lv [] cs 0 0) : ex_sn cx al cc maxL mc ms fuel av cs Q := by
  subst hl
  exact ⟨h1, h2, h⟩
theorem ex_inn {l : Launch} {y : MethodName} {cc : ByteArray} {maxL fr lo mc ms fuel : Nat} {cx : ex_K} {al : ex_J} (hy : plainName y.cls = true) (hyn : y.name = "<init>") (hown : cx.1 = y.cls) (hok : ex_ok l fr lo cx) (hnok : ex_nok l fr lo mc ms cx al) : ex_MetN l y cc maxL fr lo mc ms (ex_sn cx al cc maxL mc ms fuel) :=
  ex_metN (fuel := fuel) hy hyn hown hok hnok (fun av cs Q h => ⟨fun w hw => by simpa using List.all_eq_true.mp h.1 w hw, h.2.1, h.2.2⟩)
theorem vp_dec {i : Int32} {n : Nat} (h : (decide (i < 0) || decide (n ≤ i.toNatClampNeg)) = false) : vp_in i n := by
  simp only [Bool.or_eq_false_iff, decide_eq_false_iff_not] at h
  exact fun q => q.elim h.1 h.2
def ec_nchk (own : String) (fp : List (Nat × Nat)) (q : Nat × Nat × Nat × Bool × FieldType) : Bool := ec_fchk own fp q && (match ec_cl[q.2.1]? with
  | some (_, T, _) => !(T q.2.2.1).2.2.2 || decide ((T q.2.2.1).1 = own)
  | none => false)
theorem ec_nfok {own : String} {fp : List (Nat × Nat)} {t : List (Nat × Nat × Nat × Bool × FieldType)} (h : t.all (ec_nchk own fp) = true) : ∀ (ix ci k : Nat) (b : Bool) (ty : FieldType), ec_fx t ix = some (ci, k, b, ty) → ∃ C T N, ec_cl[ci]? = some (C, T, N) ∧ k < N ∧ Cond.fieldLink own ix (T k).1 (T k).2.1 (T k).2.2.1 ∈ ec_tb ∧ parseFieldDescriptor (T k).2.2.1 = some ty ∧ ((T k).2.2.2 = false ∨ (T k).2.2.2 = true ∧ (T k).1 = own) := by
  intro ix ci k b ty hx
  have h0 : t.all (ec_fchk own fp) = true := List.all_eq_true.mpr (fun q hq => by
    have := List.all_eq_true.mp h q hq
    unfold ec_nchk at this
    simp only [Bool.and_eq_true] at this
    exact this.1)
  obtain ⟨C, T, N, g1, g2, g3, g4, -⟩ := ec_fok h0 ix ci k b ty hx
  refine ⟨C, T, N, g1, g2, g3, g4, ?_⟩
  unfold ec_fx at hx
  cases hf : t.find? (fun q => q.1 == ix) with
  | none => rw [hf] at hx; cases hx
  | some q =>
    rw [hf] at hx
    have hq := List.all_eq_true.mp h q (List.mem_of_find?_eq_some hf)
    obtain ⟨i, ci', k', b', ty'⟩ := q
    cases hx
    unfold ec_nchk at hq
    dsimp only at hq
    rw [g1] at hq
    simp only [Bool.and_eq_true, Bool.or_eq_true, Bool.not_eq_true', decide_eq_true_eq] at hq
    rcases hq.2 with h4 | h4
    · exact Or.inl h4
    · by_cases hb : (T k).2.2.2 = false
      · exact Or.inl hb
      · exact Or.inr ⟨by simpa using hb, h4⟩

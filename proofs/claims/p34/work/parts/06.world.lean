section EXW
variable {p : Program} {l : Launch} {e : Env} {R : Room} {s : State} {m : MethodId} {args : Array Value} {below : List Frame} {meth : Method} {c : Code}
variable {D : va_G} {ad ca : Nat → Nat} {n0 nL fr lo : Nat} {A : Nat → Prop} {cc : ByteArray} {ret : Option FieldType} {own : String} {Q : ex_Q} {Qw : State → Prop} {kc ks : Nat} {xt : ex_xt}
theorem ex_s_getfield (C : ex_Cx xt p R s m args meth c D ad ca n0 nL fr lo A cc ret own) {pc : Nat} {lv : ex_L} {cs : ex_C} {ix ci k a : Nat} {fs : List Value} {v : Value} {r : ex_V} (hd : decode cc pc = .ok (.getfield ix, 3)) (ho : cs[a]? = some (.inr (ci, fs))) (hv : fs[k]? = some v)
    (hl : ∃ Cn T N, ec_cl[ci]? = some (Cn, T, N) ∧ k < N ∧ Cond.fieldLink own ix (T k).1 (T k).2.1 (T k).2.2.1 ∈ ec_tb)
    (kk : ex_T p l e R s m args below meth c D ad ca n0 nL A kc ks Qw (pc + 3) lv (v :: r) cs) : ex_T p l e R s m args below meth c D ad ca n0 nL A kc ks Qw pc lv (.ref a :: r) cs := by
  obtain ⟨hx, hb, hml, hown, hts, hr, hlk, hD, hK, hX, hZ, hAe, hR1, hR2, hxt, hNw⟩ := C
  obtain ⟨Cn, T, N, h1, h2, h3⟩ := hl
  intro ls H locs G
  exact va_get (D := D) (ci := ci) (v := ex_v ad v) (C := Cn) (T := T) (N := N) (rest := r.map (ex_v ad)) hx hb hts (ec_clok h1).1 hown hK G.2.2.1 a (ex_w_get ho) h1 k h2 (hts _ h3) (fun _ h9 => h9) (by rw [List.getElem?_map, hv]; rfl) hd (kk ls H locs G)
theorem ex_s_putfield (C : ex_Cx xt p R s m args meth c D ad ca n0 nL fr lo A cc ret own) {pc : Nat} {lv : ex_L} {cs : ex_C} {ix ci k a : Nat} {fs : List Value} {v : Value} {r : ex_V} {ty : FieldType} (hd : decode cc pc = .ok (.putfield ix, 3)) (ho : cs[a]? = some (.inr (ci, fs))) (hkl : k < fs.length) (hf : ex_fit ty v)
    (hl : ∃ Cn T N, ec_cl[ci]? = some (Cn, T, N) ∧ k < N ∧ Cond.fieldLink own ix (T k).1 (T k).2.1 (T k).2.2.1 ∈ ec_tb ∧ parseFieldDescriptor (T k).2.2.1 = some ty ∧ (T k).2.2.2 = false)
    (kk : ex_T p l e R s m args below meth c D ad ca n0 nL A kc ks Qw (pc + 3) lv r (cs.set a (.inr (ci, fs.set k v)))) : ex_T p l e R s m args below meth c D ad ca n0 nL A kc ks Qw pc lv (v :: .ref a :: r) cs := by
  obtain ⟨hx, hb, hml, hown, hts, hr, hlk, hD, hK, hX, hZ, hAe, hR1, hR2, hxt, hNw⟩ := C
  obtain ⟨Cn, T, N, h1, h2, h3, h4, h5⟩ := hl
  obtain ⟨hin, ty0, hty, hnm⟩ := ec_clok h1
  intro ls H locs G
  refine va_put (D := D) (ci := ci) (v := ex_v ad v) (ty := ty) (C := Cn) (T := T) (N := N) (rest := r.map (ex_v ad)) hx hb hts hin ty0 hty hnm hown hK G.2.2.1 (hD.va G.1) G.2.2.2 a (ex_w_get ho) h1 k h2 (hts _ h3) (fun _ h9 => h9) h5 h4 hf.ok.1 hf.ok.2 (by rw [List.length_map]; exact hkl) hd (fun H1 locs1 hP1 hD1 hS1 => ?_)
  refine kk ls H1 locs1 ⟨by rw [List.length_set]; exact G.1, G.2.1, ?_, hS1⟩
  rw [← ex_w_set]
  show va_P D ec_cl ((ex_w ad ca cs).set a (ad a, .inr (ci, (fs.set k v).map (ex_v ad)))) H1
  rw [List.map_set]
  exact hP1
theorem ex_s_getstatic (C : ex_Cx xt p R s m args meth c D ad ca n0 nL fr lo A cc ret own) {pc : Nat} {lv : ex_L} {cs : ex_C} {ix j : Nat} {r : ex_V} (hd : decode cc pc = .ok (.getstatic ix, 3)) (hl : ∃ Cn n dd, (Cn, n, dd, j) ∈ ec_zs ∧ Cond.fieldLink own ix Cn n dd ∈ ec_tb)
    (kk : ex_T p l e R s m args below meth c D ad ca n0 nL A kc ks Qw (pc + 3) lv (.ref (1000 + j) :: r) cs) : ex_T p l e R s m args below meth c D ad ca n0 nL A kc ks Qw pc lv r cs := by
  obtain ⟨hx, hb, hml, hown, hts, hr, hlk, hD, hK, hX, hZ, hAe, hR1, hR2, hxt, hNw⟩ := C
  obtain ⟨Cn, n, dd, h1, h2⟩ := hl
  intro ls H locs G
  exact va_gets (v := .ref (ad (1000 + j))) (rest := r.map (ex_v ad)) hx hb (hZ Cn n dd j h1) G.2.2.2 hown (hts _ h2) (fun _ h9 => h9) hd (kk ls H locs G)
theorem ex_s_iaload (C : ex_Cx xt p R s m args meth c D ad ca n0 nL fr lo A cc ret own) {pc : Nat} {lv : ex_L} {cs : ex_C} {a n : Nat} {f : Nat → Int32} {i : Int32} {r : ex_V} (hd : decode cc pc = .ok (.iaload, 1)) (ho : cs[a]? = some (.inl (0, n, .inl f))) (hi : vp_in i n)
    (kk : ex_T p l e R s m args below meth c D ad ca n0 nL A kc ks Qw (pc + 1) lv (.int (f i.toNatClampNeg) :: r) cs) : ex_T p l e R s m args below meth c D ad ca n0 nL A kc ks Qw pc lv (.int i :: .ref a :: r) cs := by
  obtain ⟨hx, hb, hml, hown, hts, hr, hlk, hD, hK, hX, hZ, hAe, hR1, hR2, hxt, hNw⟩ := C
  intro ls H locs G
  exact va_iald (rest := r.map (ex_v ad)) hx hb hK G.2.2.1 a 0 (ex_w_get ho) rfl hi hd (kk ls H locs G)
theorem ex_s_ialoadX (C : ex_Cx xt p R s m args meth c D ad ca n0 nL fr lo A cc ret own) {pc : Nat} {lv : ex_L} {cs : ex_C} {a n : Nat} {f : Nat → Int32} {i : Int32} {r : ex_V} (hd : decode cc pc = .ok (.iaload, 1)) (ha : 1000 ≤ a) (ho : xt[a - 1000]? = some (n, f)) (hi : vp_in i n)
    (kk : ex_T p l e R s m args below meth c D ad ca n0 nL A kc ks Qw (pc + 1) lv (.int (f i.toNatClampNeg) :: r) cs) : ex_T p l e R s m args below meth c D ad ca n0 nL A kc ks Qw pc lv (.int i :: .ref a :: r) cs := by
  obtain ⟨hx, hb, hml, hown, hts, hr, hlk, hD, hK, hX, hZ, hAe, hR1, hR2, hxt, hNw⟩ := C
  intro ls H locs G
  have hT := hX (a - 1000) n f ho
  rw [show 1000 + (a - 1000) = a by omega] at hT
  exact va_ti (v := .int (f i.toNatClampNeg)) (rest := r.map (ex_v ad)) hx hb hT G.2.2.2 hi rfl hd (kk ls H locs G)
theorem ex_s_baload (C : ex_Cx xt p R s m args meth c D ad ca n0 nL fr lo A cc ret own) {pc : Nat} {lv : ex_L} {cs : ex_C} {a n : Nat} {f : Nat → Int32} {i : Int32} {r : ex_V} (hd : decode cc pc = .ok (.baload, 1)) (ho : cs[a]? = some (.inl (1, n, .inl f))) (hi : vp_in i n)
    (kk : ex_T p l e R s m args below meth c D ad ca n0 nL A kc ks Qw (pc + 1) lv (.int (f i.toNatClampNeg) :: r) cs) : ex_T p l e R s m args below meth c D ad ca n0 nL A kc ks Qw pc lv (.int i :: .ref a :: r) cs := by
  obtain ⟨hx, hb, hml, hown, hts, hr, hlk, hD, hK, hX, hZ, hAe, hR1, hR2, hxt, hNw⟩ := C
  intro ls H locs G
  exact va_zald (rest := r.map (ex_v ad)) hx hb hK G.2.2.1 a 1 (ex_w_get ho) rfl hi hd (kk ls H locs G)
theorem ex_s_iastore (C : ex_Cx xt p R s m args meth c D ad ca n0 nL fr lo A cc ret own) {pc : Nat} {lv : ex_L} {cs : ex_C} {a n : Nat} {f : Nat → Int32} {i x : Int32} {r : ex_V} (hd : decode cc pc = .ok (.iastore, 1)) (ho : cs[a]? = some (.inl (0, n, .inl f))) (hi : vp_in i n)
    (kk : ex_T p l e R s m args below meth c D ad ca n0 nL A kc ks Qw (pc + 1) lv r (cs.set a (.inl (0, n, .inl (upd f i.toNatClampNeg x))))) : ex_T p l e R s m args below meth c D ad ca n0 nL A kc ks Qw pc lv (.int x :: .int i :: .ref a :: r) cs := by
  obtain ⟨hx, hb, hml, hown, hts, hr, hlk, hD, hK, hX, hZ, hAe, hR1, hR2, hxt, hNw⟩ := C
  intro ls H locs G
  refine va_iast (rest := r.map (ex_v ad)) hx hb hK G.2.2.1 (hD.va G.1) G.2.2.2 a 0 (ex_w_get ho) rfl hi hd (fun H1 locs1 hP1 hD1 hS1 => ?_)
  refine kk ls H1 locs1 ⟨by rw [List.length_set]; exact G.1, G.2.1, ?_, hS1⟩
  rw [← ex_w_set]
  exact hP1
theorem ex_nar {x : Int32} (h : x = 0 ∨ x = 1) : vp_nar .boolean x = x := by
  rcases h with rfl | rfl <;> decide
theorem ex_s_bastore (C : ex_Cx xt p R s m args meth c D ad ca n0 nL fr lo A cc ret own) {pc : Nat} {lv : ex_L} {cs : ex_C} {a n : Nat} {f : Nat → Int32} {i x : Int32} {r : ex_V} (hd : decode cc pc = .ok (.bastore, 1)) (ho : cs[a]? = some (.inl (1, n, .inl f))) (hi : vp_in i n) (h01 : x = 0 ∨ x = 1)
    (kk : ex_T p l e R s m args below meth c D ad ca n0 nL A kc ks Qw (pc + 1) lv r (cs.set a (.inl (1, n, .inl (upd f i.toNatClampNeg x))))) : ex_T p l e R s m args below meth c D ad ca n0 nL A kc ks Qw pc lv (.int x :: .int i :: .ref a :: r) cs := by
  obtain ⟨hx, hb, hml, hown, hts, hr, hlk, hD, hK, hX, hZ, hAe, hR1, hR2, hxt, hNw⟩ := C
  intro ls H locs G
  refine va_zast (rest := r.map (ex_v ad)) hx hb hK G.2.2.1 (hD.va G.1) G.2.2.2 a 1 (ex_w_get ho) rfl hi hd (fun H1 locs1 hP1 hD1 hS1 => ?_)
  refine kk ls H1 locs1 ⟨by rw [List.length_set]; exact G.1, G.2.1, ?_, hS1⟩
  rw [← ex_w_set]
  rw [ex_nar h01] at hP1
  exact hP1
theorem ex_s_arraylength (C : ex_Cx xt p R s m args meth c D ad ca n0 nL fr lo A cc ret own) {pc : Nat} {lv : ex_L} {cs : ex_C} {a t n : Nat} {f : Nat → Int32} {r : ex_V} (hd : decode cc pc = .ok (.arraylength, 1)) (ho : cs[a]? = some (.inl (t, n, .inl f))) (ht : t = 0 ∨ t = 1)
    (kk : ex_T p l e R s m args below meth c D ad ca n0 nL A kc ks Qw (pc + 1) lv (.int (Int32.ofNat n) :: r) cs) : ex_T p l e R s m args below meth c D ad ca n0 nL A kc ks Qw pc lv (.ref a :: r) cs := by
  obtain ⟨hx, hb, hml, hown, hts, hr, hlk, hD, hK, hX, hZ, hAe, hR1, hR2, hxt, hNw⟩ := C
  intro ls H locs G
  rcases ht with rfl | rfl
  · exact va_alen (rest := r.map (ex_v ad)) (x := (n, .inl f)) hx hb hK G.2.2.1 a 0 (ex_w_get ho) rfl rfl hd (kk ls H locs G)
  · exact va_alen (rest := r.map (ex_v ad)) (x := (n, .inl f)) hx hb hK G.2.2.1 a 1 (ex_w_get ho) rfl rfl hd (kk ls H locs G)
theorem ex_s_ireturn (C : ex_Cx xt p R s m args meth c D ad ca n0 nL fr lo A cc ret own) {pc : Nat} {lv : ex_L} {cs : ex_C} {v : Int32} (hd : decode cc pc = .ok (.ireturn, 1)) (hv : ex_ret ret v) (hq : Q (some (.int v)) cs) : ex_T p l e R s m args below meth c D ad ca n0 nL A 0 0 (MQ below (ex_Qc D ad ca Q n0 A) args s 0 0 A) pc lv [.int v] cs := by
  obtain ⟨hx, hb, hml, hown, hts, hr, hlk, hD, hK, hX, hZ, hAe, hR1, hR2, hxt, hNw⟩ := C
  intro ls H locs G
  unfold ex_ret at hv
  split at hv
  · exact W.zret (ty := .int) hx hb hr rfl (fun t ht hW => ⟨⟨some (.int v), cs, rfl, hq, G.1, by rw [ht]; exact G.2.2.1⟩, G.2.2.2.F ht⟩) G.2.2.2.2.2 hd hlk
  · exact W.zret (ty := .boolean) hx hb hr (by rcases hv with rfl | rfl <;> rfl) (fun t ht hW => ⟨⟨some (.int v), cs, rfl, hq, G.1, by rw [ht]; exact G.2.2.1⟩, G.2.2.2.F ht⟩) G.2.2.2.2.2 hd hlk
  · exact hv.elim
theorem ex_s_return (C : ex_Cx xt p R s m args meth c D ad ca n0 nL fr lo A cc ret own) {pc : Nat} {lv : ex_L} {cs : ex_C} (hd : decode cc pc = .ok (.return_, 1)) (hv : ret = none) (hq : Q none cs) : ex_T p l e R s m args below meth c D ad ca n0 nL A 0 0 (MQ below (ex_Qc D ad ca Q n0 A) args s 0 0 A) pc lv [] cs := by
  obtain ⟨hx, hb, hml, hown, hts, hr, hlk, hD, hK, hX, hZ, hAe, hR1, hR2, hxt, hNw⟩ := C
  intro ls H locs G
  exact W.vret hx hb (hr.trans hv) (fun t ht hW => ⟨⟨none, cs, rfl, hq, G.1, by rw [ht]; exact G.2.2.1⟩, G.2.2.2.F ht⟩) G.2.2.2.2.2 hd hlk
/-- behind a call -/
theorem ex_s_run {pc : Nat} {lv : ex_L} {r : ex_V} {Qk : ex_Q} {ls : Array Slot} {H : Heap} {locs : List Loc} {st0 : List Value} {a : Array Value} (hr : va_Run p l e R s m args below meth c H locs kc ks 0 0 (F0 m pc ls st0) (r.map (ex_v ad)) (ex_Qc D ad ca Qk n0 (ex_A ad n0 H.size) a) (ex_A ad n0 H.size))
    (hA : ∀ q, ex_A ad n0 s.heap.size q → A q) (hl : ex_ls ad lv nL ls) (hS : va_S A s.heap H locs) (kk : ∀ (rv : Option Value) (cs' : ex_C), Qk rv cs' → ex_T p l e R s m args below meth c D ad ca n0 nL A kc ks Qw (pc + 3) lv (rv.toList ++ r) cs') :
    W p l e R s m args below meth c H locs kc ks Qw (F0 m pc ls st0) := by
  intro T hT X
  obtain ⟨v, st₀, t, T', L, h0, X', hL, e1, e2, ⟨⟨rv, cs', hv, hq, hn, hp⟩, hz, hk⟩, st⟩ := hr T hT X
  cases hv
  rw [h0] at hz hk
  have hsub : ∀ q, ex_A ad n0 H.size q → A q := by
    intro q h
    rcases h with h | h
    · exact hA q (Or.inl h)
    · exact hA q (Or.inr (Nat.le_trans hS.1 h))
  have hstk : (rv.toList ++ r).map (ex_v ad) = (rv.map (ex_v ad)).toList ++ r.map (ex_v ad) := by cases rv <;> simp
  have k2 := kk rv cs' hq ls T'.heap (locs ++ L) ⟨hn, hl, by rw [e1]; exact hp, Nat.le_trans hS.1 (by rw [e1]; exact hz), fun q h1 h2 => by rw [e1, hk q (Nat.lt_of_lt_of_le h1 hS.1) (fun z => h2 (hsub q z))]; exact hS.2.1 q h1 h2, fun q hq => by
      rcases List.mem_append.mp hq with h | h
      · exact hS.2.2 q h
      · exact hsub _ (hL q h)⟩
  rw [hstk] at k2
  obtain ⟨t2, a1, b1⟩ := k2 T' rfl X'
  exact ⟨t2, st t2 a1, b1⟩
theorem ex_s_copy (C : ex_Cx xt p R s m args meth c D ad ca n0 nL fr lo A cc ret own) {pc : Nat} {lv : ex_L} {cs : ex_C} {ix a a0 m0 m1 : Nat} {f g : Nat → Int32} {sp dp n : Int32} {r : ex_V} (hd : decode cc pc = .ok (.invokestatic ix, 3)) (hl : Cond.methodLink own ix arraycopyName ∈ ec_tb ∧ Cond.native arraycopyName ∈ ec_tb ∧ Cond.static arraycopyName ∈ ec_tb ∧ Cond.initialized "java/lang/System" ∈ ec_tb ∧ 1 ≤ fr ∧ 8 + (nativeFrameWords "java/lang/System" "arraycopy" 5 + 11) ≤ lo)
    (ho0 : cs[a0]? = some (.inl (0, m0, .inl f))) (ho : cs[a]? = some (.inl (0, m1, .inl g))) (h1 : ¬ sp < 0) (h2 : ¬ dp < 0) (h3 : ¬ n < 0) (h4 : sp.toNatClampNeg + n.toNatClampNeg ≤ m0) (h5 : dp.toNatClampNeg + n.toNatClampNeg ≤ m1) (h6 : (r.map (fun v => v.category)).sum ≤ 8)
    (kk : ex_T p l e R s m args below meth c D ad ca n0 nL A kc ks Qw (pc + 3) lv r (cs.set a (.inl (0, m1, .inl (va_cpy f g sp.toNatClampNeg dp.toNatClampNeg n.toNatClampNeg))))) : ex_T p l e R s m args below meth c D ad ca n0 nL A kc ks Qw pc lv (.int n :: .int dp :: .ref a :: .int sp :: .ref a0 :: r) cs := by
  obtain ⟨hx, hb, hml, hown, hts, hr, hlk, hD, hK, hX, hZ, hAe, hR1, hR2, hxt, hNw⟩ := C
  intro ls H locs G
  have hcat : ((r.map (ex_v ad)).map fun v => v.category).sum ≤ 8 := by
    rw [List.map_map]
    have : ((fun v : Value => v.category) ∘ ex_v ad) = (fun v => v.category) := by funext v; exact ex_v_cat ad v
    rw [this]
    exact h6
  refine va_copyi (ty := .int) (rest := r.map (ex_v ad)) hx hb (hml.trans G.2.1.1.symm) hown (hts _ hl.1) (hts _ hl.2.1) (hts _ hl.2.2.1) (hts _ hl.2.2.2.1) hK G.2.2.1 (hD.va G.1) G.2.2.2 a0 a 0 0 (ex_w_get ho0) (ex_w_get ho) rfl rfl rfl h1 h2 h3 h4 h5 (fun _ _ => rfl) (Nat.le_trans hl.2.2.2.2.1 hR1) (Nat.le_trans (Nat.add_le_add_right hcat _) (Nat.le_trans hl.2.2.2.2.2 hR2)) hd (fun H1 locs1 hP1 hD1 hS1 => ?_)
  refine kk ls H1 locs1 ⟨by rw [List.length_set]; exact G.1, G.2.1, ?_, hS1⟩
  rw [← ex_w_set]
  exact hP1
theorem ex_cat8 {ad : Nat → Nat} {r : ex_V} (h6 : (r.map (fun v => v.category)).sum ≤ 8) : ((r.map (ex_v ad)).map fun v => v.category).sum ≤ 8 := by
  rw [List.map_map]
  have : ((fun v : Value => v.category) ∘ ex_v ad) = (fun v => v.category) := by funext v; exact ex_v_cat ad v
  rw [this]
  exact h6
theorem ex_s_min (C : ex_Cx xt p R s m args meth c D ad ca n0 nL fr lo A cc ret own) {pc : Nat} {lv : ex_L} {cs : ex_C} {ix : Nat} {x y : Int32} {r : ex_V} (hd : decode cc pc = .ok (.invokestatic ix, 3)) (hrc : kc ≤ R.cells ∧ ks ≤ R.slots) (hl : Cond.methodLink own ix Lib.Math.min.name ∈ ec_tb ∧ Cond.static Lib.Math.min.name ∈ ec_tb ∧ Cond.initialized "java/lang/Math" ∈ ec_tb ∧ Cond.code Lib.Math.min.name Lib.Math.min.code 2 (some .int) ∈ ec_tb ∧ 1 ≤ fr ∧ 21 ≤ lo) (h6 : (r.map (fun v => v.category)).sum ≤ 8)
    (kk : ex_T p l e R s m args below meth c D ad ca n0 nL A kc ks Qw (pc + 3) lv (.int (if y < x then y else x) :: r) cs) : ex_T p l e R s m args below meth c D ad ca n0 nL A kc ks Qw pc lv (.int y :: .int x :: r) cs := by
  obtain ⟨hx, hb, hml, hown, hts, hr, hlk, hD, hK, hX, hZ, hAe, hR1, hR2, hxt, hNw⟩ := C
  intro ls H locs G
  exact va_mmin (x := x) (y := y) (rest := r.map (ex_v ad)) hx hb (hml.trans G.2.1.1.symm) hown (hts _ hl.1) (hts _ hl.2.1) (hts _ hl.2.2.1) (hts _ hl.2.2.2.1) (Nat.le_trans hl.2.2.2.2.1 hR1) (Nat.le_trans (Nat.add_le_add_right (ex_cat8 h6) 13) (Nat.le_trans hl.2.2.2.2.2 hR2)) hrc.1 hrc.2 hd (kk ls H locs G)
theorem ex_s_max (C : ex_Cx xt p R s m args meth c D ad ca n0 nL fr lo A cc ret own) {pc : Nat} {lv : ex_L} {cs : ex_C} {ix : Nat} {x y : Int32} {r : ex_V} (hd : decode cc pc = .ok (.invokestatic ix, 3)) (hrc : kc ≤ R.cells ∧ ks ≤ R.slots) (hl : Cond.methodLink own ix Lib.Math.max.name ∈ ec_tb ∧ Cond.static Lib.Math.max.name ∈ ec_tb ∧ Cond.initialized "java/lang/Math" ∈ ec_tb ∧ Cond.code Lib.Math.max.name Lib.Math.max.code 2 (some .int) ∈ ec_tb ∧ 1 ≤ fr ∧ 21 ≤ lo) (h6 : (r.map (fun v => v.category)).sum ≤ 8)
    (kk : ex_T p l e R s m args below meth c D ad ca n0 nL A kc ks Qw (pc + 3) lv (.int (if x < y then y else x) :: r) cs) : ex_T p l e R s m args below meth c D ad ca n0 nL A kc ks Qw pc lv (.int y :: .int x :: r) cs := by
  obtain ⟨hx, hb, hml, hown, hts, hr, hlk, hD, hK, hX, hZ, hAe, hR1, hR2, hxt, hNw⟩ := C
  intro ls H locs G
  exact va_mmax (x := x) (y := y) (rest := r.map (ex_v ad)) hx hb (hml.trans G.2.1.1.symm) hown (hts _ hl.1) (hts _ hl.2.1) (hts _ hl.2.2.1) (hts _ hl.2.2.2.1) (Nat.le_trans hl.2.2.2.2.1 hR1) (Nat.le_trans (Nat.add_le_add_right (ex_cat8 h6) 13) (Nat.le_trans hl.2.2.2.2.2 hR2)) hrc.1 hrc.2 hd (kk ls H locs G)
theorem ex_start (C : ex_Cx xt p R s m args meth c D ad ca n0 nL fr lo A cc ret own) {cs : ex_C} {H : Heap} {locs : List Loc} {av : ex_V} (hn : cs.length = n0) (hP : va_P D ec_cl (ex_w ad ca cs) H) (hS : va_S A s.heap H locs) : ∀ U : State, U.heap = H → s.WarmedH U.vm → ex_Pc D ad ca av cs n0 H.size (av.map (ex_v ad)).toArray U := by
  obtain ⟨hx, hb, hml, hown, hts, hr, hlk, hD, hK, hX, hZ, hAe, hR1, hR2, hxt, hNw⟩ := C
  intro U hU hW
  have hsub : ∀ q, ex_A ad n0 H.size q → A q := by
    intro q h
    rcases h with h | h
    · exact hAe q (Or.inl h)
    · exact hAe q (Or.inr (Nat.le_trans hS.1 h))
  refine ⟨rfl, by rw [hU], hn, by rw [hU]; exact hP, hD.self, va_K.moved hW.alike hK, fun j n f hj => ?_, fun Cn n dd j hj => ?_, fun q hq => va_Nw.warmM hW (hNw q hq)⟩
  · rw [hU]
    exact (((hX j n f (hxt j (n, f) hj)).moved hW.alike).kept hS.2.1).narrow hsub
  · rw [hU]
    exact (((hZ Cn n dd j hj).moved hW.alike).kept hS.2.1).narrow hsub
theorem ex_good {y : MethodName} {bytes : ByteArray} {maxL : Nat} {ret : Option FieldType} (h : Cond.code y bytes maxL ret ∈ ec_tb) : GoodIn ec_tb (.code y bytes maxL ret :: ec_tb) := by
  intro w hw
  rcases List.mem_cons.mp hw with rfl | hw
  · exact ⟨h, ec_good _ h⟩
  · exact ⟨hw, ec_good _ hw⟩
theorem ex_s_virtual (C : ex_Cx xt p R s m args meth c D ad ca n0 nL fr lo A cc ret own) {pc : Nat} {lv : ex_L} {cs : ex_C} {ix n ci a : Nat} {sp : ex_S} {fs : List Value} {as r : ex_V} {Qk : ex_Q} (hd : decode cc pc = .ok (.invokevirtual ix, 3)) (hrc : kc ≤ R.cells ∧ ks ≤ R.slots) (hcok : ex_cok l own fr lo ix n (some ci) sp) (ho : cs[a]? = some (.inr (ci, fs))) (hn : as.length + 1 = n) (hsum : (r.map (fun v => v.category)).sum ≤ 8)
    (hsp : sp (.ref a :: as) cs Qk) (kk : ∀ (rv : Option Value) (cs' : ex_C), Qk rv cs' → ex_T p l e R s m args below meth c D ad ca n0 nL A kc ks Qw (pc + 3) lv (rv.toList ++ r) cs') : ex_T p l e R s m args below meth c D ad ca n0 nL A kc ks Qw pc lv (as.reverse ++ .ref a :: r) cs := by
  intro ls H locs G
  have hst := ex_start (av := .ref a :: as) C G.1 G.2.2.1 G.2.2.2
  obtain ⟨hx, hb, hml, hown, hts, hr, hlk, hD, hK, hX, hZ, hAe, hR1, hR2, hxt, hNw⟩ := C
  obtain ⟨y, bytes, maxL, ret', fr', lo', hd', hmx, hM, hcode, hini, hy, hlink, ⟨T, N, hcl⟩, hinst, hsel, -, hpar⟩ := hcok
  have hM := hM D ad ca n0 H.size (.ref a :: as) cs Qk hsp
  have hroom : (ex_rm fr' lo').frames + 1 ≤ R.frames ∧ 8 + (maxL + 11) + (ex_rm fr' lo').locals ≤ R.locals := by
    exact ⟨Nat.le_trans hd' hR1, Nat.le_trans hmx hR2⟩
  have hp : PreV s H y.cls (ad a) (ex_Pc D ad ca (.ref a :: as) cs n0 H.size) (as.map (ex_v ad)) := ⟨ex_blind, va_recv hK G.2.2.1 hcl (ex_w_get ho), hst⟩
  have hstack : (as.reverse ++ Value.ref a :: r).map (ex_v ad) = (as.map (ex_v ad)).reverse ++ Value.ref (ad a) :: r.map (ex_v ad) := by simp [ex_v]
  have hlen : (as.map (ex_v ad)).length = n - 1 := by rw [List.length_map]; omega
  have hcat : ((r.map (ex_v ad)).map fun v => v.category).sum ≤ 8 := by
    rw [List.map_map]
    have : ((fun v : Value => v.category) ∘ ex_v ad) = (fun v => v.category) := by funext v; exact ex_v_cat ad v
    rw [this]
    exact hsum
  rw [hstack]
  rcases hlink with hlink | ⟨host, hlink⟩
  · refine ex_s_run (va_runV (C := y.cls) (n := n - 1) (ret := ret') ⟨hx, hb, hml, hown, hts⟩ hM ⟨callB_of (n - 1) hts (ex_good hcode) rfl rfl rfl (hts _ hini) (hts _ hlink) ⟨hy.1, hy.2, hpar⟩ hroom, hts _ hinst, hts _ hsel⟩ hp rfl hlen G.2.1.1 rfl (lv_room hcat) hd hrc) hAe G.2.1 G.2.2.2 kk
  · refine ex_s_run (va_runVN (C := y.cls) (n := n - 1) (ret := ret') ⟨hx, hb, hml, hown, hts⟩ hM ⟨va_cnB (n - 1) hts (ex_good hcode) rfl rfl rfl (hNw _ hlink) (hts _ hini) ⟨hy.1, hy.2, hpar⟩ hroom, hts _ hinst, hts _ hsel⟩ hp rfl hlen G.2.1.1 rfl (lv_room hcat) hd hrc) hAe G.2.1 G.2.2.2 kk
theorem ex_s_static (C : ex_Cx xt p R s m args meth c D ad ca n0 nL fr lo A cc ret own) {pc : Nat} {lv : ex_L} {cs : ex_C} {ix n : Nat} {sp : ex_S} {as r : ex_V} {Qk : ex_Q} (hd : decode cc pc = .ok (.invokestatic ix, 3)) (hrc : kc ≤ R.cells ∧ ks ≤ R.slots) (hcok : ex_cok l own fr lo ix n none sp) (hn : as.length = n) (hsum : (r.map (fun v => v.category)).sum ≤ 8)
    (hsp : sp as cs Qk) (kk : ∀ (rv : Option Value) (cs' : ex_C), Qk rv cs' → ex_T p l e R s m args below meth c D ad ca n0 nL A kc ks Qw (pc + 3) lv (rv.toList ++ r) cs') : ex_T p l e R s m args below meth c D ad ca n0 nL A kc ks Qw pc lv (as.reverse ++ r) cs := by
  intro ls H locs G
  have hst := ex_start (av := as) C G.1 G.2.2.1 G.2.2.2
  obtain ⟨hx, hb, hml, hown, hts, hr, hlk, hD, hK, hX, hZ, hAe, hR1, hR2, hxt, hNw⟩ := C
  obtain ⟨y, bytes, maxL, ret', fr', lo', hd', hmx, hM, hcode, hini, hy, hlink, hstat, hpar⟩ := hcok
  have hM := hM D ad ca n0 H.size as cs Qk hsp
  have hroom : (ex_rm fr' lo').frames + 1 ≤ R.frames ∧ 8 + (maxL + 11) + (ex_rm fr' lo').locals ≤ R.locals := by
    exact ⟨Nat.le_trans hd' hR1, Nat.le_trans hmx hR2⟩
  have hp : PreS s H (ex_Pc D ad ca as cs n0 H.size) (as.map (ex_v ad)) := ⟨ex_blind, hst⟩
  have hstack : (as.reverse ++ r).map (ex_v ad) = (as.map (ex_v ad)).reverse ++ r.map (ex_v ad) := by simp
  have hlen : (as.map (ex_v ad)).length = n := by rw [List.length_map]; exact hn
  have hcat : ((r.map (ex_v ad)).map fun v => v.category).sum ≤ 8 := by
    rw [List.map_map]
    have : ((fun v : Value => v.category) ∘ ex_v ad) = (fun v => v.category) := by funext v; exact ex_v_cat ad v
    rw [this]
    exact hsum
  rw [hstack]
  rcases hlink with hlink | ⟨host, hlink⟩
  · refine ex_s_run (va_runS (n := n) (ret := ret') ⟨hx, hb, hml, hown, hts⟩ hM ⟨callB_of n hts (ex_good hcode) rfl rfl rfl (hts _ hini) (hts _ hlink) ⟨hy.1, hy.2, hpar⟩ hroom, hts _ hstat⟩ hp rfl hlen G.2.1.1 rfl (lv_room hcat) hd hrc) hAe G.2.1 G.2.2.2 kk
  · refine ex_s_run (va_runSN (n := n) (ret := ret') ⟨hx, hb, hml, hown, hts⟩ hM ⟨va_cnB n hts (ex_good hcode) rfl rfl rfl (hNw _ hlink) (hts _ hini) ⟨hy.1, hy.2, hpar⟩ hroom, hts _ hstat, trivial⟩ hp rfl hlen G.2.1.1 rfl (lv_room hcat) hd hrc) hAe G.2.1 G.2.2.2 kk
end EXW

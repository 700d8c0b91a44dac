/-! CONSTRUCTORS: walks that make cells. A new cell's place is the next one. -/
def ex_cv (n : Nat) (v : Value) : Bool := match v with
  | .ref k => decide (k < n)
  | _ => true
def ex_co (n : Nat) (o : Option Value) : Bool := match o with
  | some v => ex_cv n v
  | none => true
def ex_ce (n : Nat) (e : va_E) : Bool := match e with
  | .inl _ => true
  | .inr o => o.2.all (ex_cv n)
/-- no value points beyond the cells -/
def ex_clo (n : Nat) (lv : ex_L) (st : ex_V) (cs : ex_C) : Bool := lv.all (ex_co n) && st.all (ex_cv n) && cs.all (ex_ce n) && decide (n < 1000)
def ex_ext (ad : Nat → Nat) (n q : Nat) : Nat → Nat := fun k => if k = n then q else ad k
theorem ex_v_ext {ad : Nat → Nat} {n q : Nat} {v : Value} (h : ex_cv n v = true) : ex_v (ex_ext ad n q) v = ex_v ad v := by
  cases v with
  | ref k =>
    have hk : k < n := by simpa [ex_cv] using h
    show Value.ref (ex_ext ad n q k) = Value.ref (ad k)
    unfold ex_ext
    rw [if_neg (Nat.ne_of_lt hk)]
  | _ => rfl
theorem ex_e_ext {ad ca : Nat → Nat} {n q : Nat} {e : va_E} (h : ex_ce n e = true) : ex_e (ex_ext ad n q) ca e = ex_e ad ca e := by
  cases e with
  | inl a => rfl
  | inr o =>
    have h2 : o.2.map (ex_v (ex_ext ad n q)) = o.2.map (ex_v ad) := List.map_congr_left (fun v hv => ex_v_ext (List.all_eq_true.mp h v hv))
    show Sum.inr (o.1, o.2.map (ex_v (ex_ext ad n q))) = Sum.inr (o.1, o.2.map (ex_v ad))
    rw [h2]
theorem ex_w_ext {ad ca : Nat → Nat} {q : Nat} {cs : ex_C} {e : va_E} (h : cs.all (ex_ce cs.length) = true) (he : ex_ce cs.length e = true) : ex_w (ex_ext ad cs.length q) ca (cs ++ [e]) = ex_w ad ca cs ++ [(q, ex_e ad ca e)] := by
  apply List.ext_getElem?
  intro i
  by_cases hi : i < cs.length
  · obtain ⟨x, hx⟩ : ∃ x, cs[i]? = some x := ⟨_, List.getElem?_eq_getElem hi⟩
    rw [List.getElem?_append_left (by rw [ex_w_len]; exact hi), ex_w_get hx, ex_w_get (e := x) (by rw [List.getElem?_append_left hi]; exact hx)]
    have hx2 : ex_ce cs.length x = true := List.all_eq_true.mp h x (List.mem_of_getElem? hx)
    rw [ex_e_ext hx2]
    unfold ex_ext
    rw [if_neg (by omega)]
  · by_cases hi2 : i = cs.length
    · subst hi2
      rw [ex_w_get (e := e) (by simp), List.getElem?_append_right (by rw [ex_w_len]; exact Nat.le_refl _), ex_w_len, Nat.sub_self, ex_e_ext he]
      unfold ex_ext
      rw [if_pos rfl]
      rfl
    · rw [List.getElem?_eq_none (by rw [ex_w_len, List.length_append]; simp; omega), List.getElem?_eq_none (by rw [List.length_append, ex_w_len]; simp; omega)]
theorem ex_st_ext {ad : Nat → Nat} {n q : Nat} {st : ex_V} (h : st.all (ex_cv n) = true) : st.map (ex_v (ex_ext ad n q)) = st.map (ex_v ad) := List.map_congr_left (fun v hv => ex_v_ext (List.all_eq_true.mp h v hv))
theorem ex_ls_ext {ad : Nat → Nat} {n q nL : Nat} {lv : ex_L} {ls : Array Slot} (h : lv.all (ex_co n) = true) (hl : ex_ls ad lv nL ls) : ex_ls (ex_ext ad n q) lv nL ls := by
  refine ⟨hl.1, hl.2.1, hl.2.2.1, fun i v hi => ?_⟩
  have h2 : ex_cv n v = true := List.all_eq_true.mp h (some v) (List.mem_of_getElem? hi)
  rw [ex_v_ext h2]
  exact hl.2.2.2 i v hi
section EXN
variable {p : Program} {l : Launch} {e : Env} {R : Room} {s : State} {m : MethodId} {args : Array Value} {below : List Frame} {meth : Method} {c : Code}
variable {D : va_G} {ad ca : Nat → Nat} {n0 nL fr lo : Nat} {A : Nat → Prop} {cc : ByteArray} {ret : Option FieldType} {own : String} {Q : ex_Q} {Qw : State → Prop} {kc ks : Nat} {xt : ex_xt}
theorem ex_Cx.ext {q : Nat} (C : ex_Cx xt p R s m args meth c D ad ca n0 nL fr lo A cc ret own) (hn : n0 < 1000) (hD : ex_D (ex_ext ad n0 q) (n0 + 1) A) (hA : ∀ x, s.heap.size ≤ x → A x) : ex_Cx xt p R s m args meth c D (ex_ext ad n0 q) ca (n0 + 1) nL fr lo A cc ret own := by
  obtain ⟨hx, hb, hml, hown, hts, hr, hlk, hD0, hK, hX, hZ, hAe, hR1, hR2, hxt, hNw⟩ := C
  have he : ∀ j, ex_ext ad n0 q (1000 + j) = ad (1000 + j) := fun j => by unfold ex_ext; rw [if_neg (by omega)]
  refine ⟨hx, hb, hml, hown, hts, hr, hlk, hD, hK, fun j n f hj => ?_, fun Cn n dd j hj => ?_, fun x h => ?_, hR1, hR2, hxt, hNw⟩
  · rw [he]; exact hX j n f hj
  · rw [he]; exact hZ Cn n dd j hj
  · rcases h with ⟨k, hk, rfl⟩ | h
    · exact hD.2 k hk
    · exact hA x h
theorem ex_D_ext {cs : ex_C} {q : Nat} {ws : va_W} (hlen : cs.length = n0 + 1) (hw : ws = ex_w (ex_ext ad n0 q) ca cs) (hD : va_D A ws) : ex_D (ex_ext ad n0 q) (n0 + 1) A := by
  subst hw
  have gt : ∀ k, k < n0 + 1 → ∃ x, (ex_w (ex_ext ad n0 q) ca cs)[k]? = some (ex_ext ad n0 q k, x) := fun k hk => by
    obtain ⟨x, hx⟩ : ∃ x, cs[k]? = some x := ⟨_, List.getElem?_eq_getElem (by omega)⟩
    exact ⟨_, ex_w_get hx⟩
  refine ⟨fun i j hi hj h => ?_, fun k hk => ?_⟩
  · obtain ⟨x, hx⟩ := gt i hi
    obtain ⟨y, hy⟩ := gt j hj
    exact hD.1 i j _ _ hx hy h
  · obtain ⟨x, hx⟩ := gt k hk
    exact hD.2 k _ hx
theorem ex_s_new (C : ex_Cx xt p R s m args meth c D ad ca n0 nL fr lo A cc ret own) {pc : Nat} {lv : ex_L} {cs : ex_C} {ix ci N : Nat} {fs : List Value} {st : ex_V} {Cn : String} {T : u_T} {ty : Nat → FieldType} (hd : decode cc pc = .ok (.new ix, 3)) (hA : ∀ x, s.heap.size ≤ x → A x) (hcl : ex_clo n0 lv st cs = true) (hlen : cs.length = n0)
    (h1 : ec_cl[ci]? = some (Cn, T, N)) (h2 : Cond.classLink own ix Cn ∈ ec_tb) (h3 : Cond.instantiable Cn N ∈ ec_tb) (h4 : Cond.initialized Cn ∈ ec_tb) (hty : ∀ k, k < N → parseFieldDescriptor (T k).2.2.1 = some (ty k)) (hfs : ∀ j, j < N → defaultValue (ty j) = vp_V fs j) (hfc : fs.all (ex_cv 0) = true)
    (hrc : kc + 1 ≤ R.cells ∧ ks + N ≤ R.slots)
    (kk : ∀ q, ex_Cx xt p R s m args meth c D (ex_ext ad n0 q) ca (n0 + 1) nL fr lo A cc ret own → ex_T p l e R s m args below meth c D (ex_ext ad n0 q) ca (n0 + 1) nL A (kc + 1) (ks + N) Qw (pc + 3) lv (.ref n0 :: st) (cs ++ [.inr (ci, fs)])) : ex_T p l e R s m args below meth c D ad ca n0 nL A kc ks Qw pc lv st cs := by
  have C' := C
  obtain ⟨hx, hb, hml, hown, hts, hr, hlk, hD, hK, hX, hZ, hAe, hR1, hR2, hxt, hNw⟩ := C
  simp only [ex_clo, Bool.and_eq_true, decide_eq_true_eq] at hcl
  obtain ⟨⟨⟨c1, c2⟩, c3⟩, c4⟩ := hcl
  subst hlen
  intro ls H locs G
  have hfm : fs.map (ex_v ad) = fs := by
    have : ∀ v ∈ fs, ex_v ad v = v := fun v hv => by
      have := List.all_eq_true.mp hfc v hv
      cases v with
      | ref k => simp [ex_cv] at this
      | _ => rfl
    exact (List.map_congr_left this).trans (List.map_id fs)
  have hce : ex_ce cs.length (.inr (ci, fs)) = true := by
    refine List.all_eq_true.mpr (fun v hv => ?_)
    have := List.all_eq_true.mp hfc v hv
    cases v with
    | ref k => simp [ex_cv] at this
    | _ => rfl
  refine va_new (D := D) (ci := ci) (fs := fs) (C := Cn) (T := T) (N := N) (rest := st.map (ex_v ad)) hx hb hts (ec_clok h1).1 ty hty hown (hts _ h2) (hts _ h3) (hts _ h4) hK G.2.2.1 (hD.va G.1) G.2.2.2 hA h1 hfs hrc.1 hrc.2 hd (fun q H1 hP1 hD1 hS1 => ?_)
  have hw : ex_w (ex_ext ad cs.length q) ca (cs ++ [.inr (ci, fs)]) = ex_w ad ca cs ++ [(q, .inr (ci, fs))] := by
    rw [ex_w_ext c3 hce]
    show _ ++ [(q, Sum.inr (ci, fs.map (ex_v ad)))] = _
    rw [hfm]
  have hlen2 : (cs ++ [Sum.inr (ci, fs)] : ex_C).length = cs.length + 1 := by simp
  have hD2 : ex_D (ex_ext ad cs.length q) (cs.length + 1) A := ex_D_ext hlen2 hw.symm hD1
  have k2 := kk q (C'.ext c4 hD2 hA) ls H1 locs ⟨hlen2, ex_ls_ext c1 G.2.1, by rw [hw]; exact hP1, hS1⟩
  have hst : (Value.ref cs.length :: st).map (ex_v (ex_ext ad cs.length q)) = Value.ref q :: st.map (ex_v ad) := by
    rw [List.map_cons, ex_st_ext c2]
    show Value.ref (ex_ext ad cs.length q cs.length) :: _ = _
    unfold ex_ext
    rw [if_pos rfl]
  rw [hst] at k2
  exact k2
/-- the array type of a tag -/
def ex_at (t : ArrayType) : Option Nat := match t with
  | .int => some 0
  | .boolean => some 1
  | _ => none
theorem ex_s_newarray (C : ex_Cx xt p R s m args meth c D ad ca n0 nL fr lo A cc ret own) {pc : Nat} {lv : ex_L} {cs : ex_C} {t : ArrayType} {tag N : Nat} {x : Int32} {st : ex_V} (hd : decode cc pc = .ok (.newarray t, 2)) (hA : ∀ x, s.heap.size ≤ x → A x) (hcl : ex_clo n0 lv st cs = true) (hlen : cs.length = n0) (ht : ex_at t = some tag) (hx0 : ¬ x < 0) (hN : x.toNatClampNeg = N) (hNb : N ≤ 1000)
    (hac : Cond.arrayClass .int ∈ ec_tb ∧ Cond.arrayClass .boolean ∈ ec_tb) (hrc : kc + 1 ≤ R.cells ∧ ks + N ≤ R.slots)
    (kk : ∀ q, ex_Cx xt p R s m args meth c D (ex_ext ad n0 q) ca (n0 + 1) nL fr lo A cc ret own → ex_T p l e R s m args below meth c D (ex_ext ad n0 q) ca (n0 + 1) nL A (kc + 1) (ks + N) Qw (pc + 2) lv (.ref n0 :: st) (cs ++ [.inl (tag, N, .inl (fun _ => 0))])) : ex_T p l e R s m args below meth c D ad ca n0 nL A kc ks Qw pc lv (.int x :: st) cs := by
  have C' := C
  obtain ⟨hx, hb, hml, hown, hts, hr, hlk, hD, hK, hX, hZ, hAe, hR1, hR2, hxt, hNw⟩ := C
  simp only [ex_clo, Bool.and_eq_true, decide_eq_true_eq] at hcl
  obtain ⟨⟨⟨c1, c2⟩, c3⟩, c4⟩ := hcl
  subst hlen
  intro ls H locs G
  have fin : ∀ (q : Nat) (H1 : Heap), va_P D ec_cl (ex_w ad ca cs ++ [(q, .inl (ca tag, N, .inl (fun _ => 0)))]) H1 → va_D A (ex_w ad ca cs ++ [(q, .inl (ca tag, N, .inl (fun _ => 0)))]) → va_S A s.heap H1 locs → W p l e R s m args below meth c H1 locs (kc + 1) (ks + N) Qw (F0 m (pc + 2) ls (.ref q :: st.map (ex_v ad))) := by
    intro q H1 hP1 hD1 hS1
    have hw : ex_w (ex_ext ad cs.length q) ca (cs ++ [.inl (tag, N, .inl (fun _ => 0))]) = ex_w ad ca cs ++ [(q, .inl (ca tag, N, .inl (fun _ => 0)))] := ex_w_ext c3 rfl
    have hlen2 : (cs ++ [Sum.inl (tag, N, .inl (fun _ => 0))] : ex_C).length = cs.length + 1 := by simp
    have hD2 : ex_D (ex_ext ad cs.length q) (cs.length + 1) A := ex_D_ext hlen2 hw.symm hD1
    have k2 := kk q (C'.ext c4 hD2 hA) ls H1 locs ⟨hlen2, ex_ls_ext c1 G.2.1, by rw [hw]; exact hP1, hS1⟩
    have hst : (Value.ref cs.length :: st).map (ex_v (ex_ext ad cs.length q)) = Value.ref q :: st.map (ex_v ad) := by
      rw [List.map_cons, ex_st_ext (by
        exact c2)]
      show Value.ref (ex_ext ad cs.length q cs.length) :: _ = _
      unfold ex_ext
      rw [if_pos rfl]
    rw [hst] at k2
    exact k2
  cases t with
  | int =>
    cases ht
    refine va_newa (D := D) (atype := .int) (ty := .int) (a0 := (N, .inl (fun _ => 0))) (rest := st.map (ex_v ad)) hx hb (hts _ hac.1) rfl hK G.2.2.1 (hD.va G.1) G.2.2.2 hA (fun cA => rfl) hx0 hN (by show N * 4 ≤ _; omega) hrc.1 hrc.2 hd (fun q cA H1 hK1 hP1 hD1 hS1 => ?_)
    have e1 := (hK.2 0 _ rfl).2
    have e2 := (hK1.2 2 (cA, .int) rfl).2
    have e3 : cA = ca 0 := Option.some.inj (e2.symm.trans e1)
    subst e3
    exact fin q H1 hP1 hD1 hS1
  | boolean =>
    cases ht
    refine va_newa (D := D) (atype := .boolean) (ty := .boolean) (a0 := (N, .inl (fun _ => 0))) (rest := st.map (ex_v ad)) hx hb (hts _ hac.2) rfl hK G.2.2.1 (hD.va G.1) G.2.2.2 hA (fun cA => rfl) hx0 hN (by show N * 1 ≤ _; omega) hrc.1 hrc.2 hd (fun q cA H1 hK1 hP1 hD1 hS1 => ?_)
    have e1 := (hK.2 1 _ rfl).2
    have e2 := (hK1.2 2 (cA, .boolean) rfl).2
    have e3 : cA = ca 1 := Option.some.inj (e2.symm.trans e1)
    subst e3
    exact fin q H1 hP1 hD1 hS1
  | _ => cases ht
theorem ex_s_putfinal (C : ex_Cx xt p R s m args meth c D ad ca n0 nL fr lo A cc ret own) (hin2 : meth.name = "<init>") {pc : Nat} {lv : ex_L} {cs : ex_C} {ix ci k a : Nat} {fs : List Value} {v : Value} {r : ex_V} {ty : FieldType} (hd : decode cc pc = .ok (.putfield ix, 3)) (ho : cs[a]? = some (.inr (ci, fs))) (hkl : k < fs.length) (hf : ex_fit ty v)
    (hl : ∃ Cn T N, ec_cl[ci]? = some (Cn, T, N) ∧ k < N ∧ Cond.fieldLink own ix (T k).1 (T k).2.1 (T k).2.2.1 ∈ ec_tb ∧ parseFieldDescriptor (T k).2.2.1 = some ty ∧ (T k).2.2.2 = true ∧ (T k).1 = own)
    (kk : ex_T p l e R s m args below meth c D ad ca n0 nL A kc ks Qw (pc + 3) lv r (cs.set a (.inr (ci, fs.set k v)))) : ex_T p l e R s m args below meth c D ad ca n0 nL A kc ks Qw pc lv (v :: .ref a :: r) cs := by
  obtain ⟨hx, hb, hml, hown, hts, hr, hlk, hD, hK, hX, hZ, hAe, hR1, hR2, hxt, hNw⟩ := C
  obtain ⟨Cn, T, N, h1, h2, h3, h4, h5, h6⟩ := hl
  obtain ⟨hin, ty0, hty, hnm⟩ := ec_clok h1
  intro ls H locs G
  refine va_putF (D := D) (ci := ci) (v := ex_v ad v) (ty := ty) (C := Cn) (T := T) (N := N) (rest := r.map (ex_v ad)) hx hb hts hin ty0 hty hnm hown hK G.2.2.1 (hD.va G.1) G.2.2.2 a (ex_w_get ho) h1 k h2 (hts _ h3) (fun _ h9 => h9) h5 hin2 h6 h4 hf.ok.1 hf.ok.2 (by rw [List.length_map]; exact hkl) hd (fun H1 locs1 hP1 hD1 hS1 => ?_)
  refine kk ls H1 locs1 ⟨by rw [List.length_set]; exact G.1, G.2.1, ?_, hS1⟩
  rw [← ex_w_set]
  show va_P D ec_cl ((ex_w ad ca cs).set a (ad a, .inr (ci, (fs.set k v).map (ex_v ad)))) H1
  rw [List.map_set]
  exact hP1
theorem ex_s_objInit (C : ex_Cx xt p R s m args meth c D ad ca n0 nL fr lo A cc ret own) {pc : Nat} {lv : ex_L} {cs : ex_C} {ix a : Nat} {r : ex_V} (hd : decode cc pc = .ok (.invokespecial ix, 3)) (h1 : Cond.methodLink own ix Lib.objectInit ∈ ec_tb) (h2 : Cond.instanceMethod Lib.objectInit ∈ ec_tb) (h3 : Cond.code Lib.objectInit ⟨#[0xb1]⟩ 1 none ∈ ec_tb) (hfr : 1 ≤ fr) (hlo : 8 + 12 ≤ lo) (hsum : (r.map (fun v => v.category)).sum ≤ 8)
    (kk : ex_T p l e R s m args below meth c D ad ca n0 nL A kc ks Qw (pc + 3) lv r cs) : ex_T p l e R s m args below meth c D ad ca n0 nL A kc ks Qw pc lv (.ref a :: r) cs := by
  obtain ⟨hx, hb, hml, hown, hts, hr, hlk, hD, hK, hX, hZ, hAe, hR1, hR2, hxt, hNw⟩ := C
  intro ls H locs G
  have hcat : ((r.map (ex_v ad)).map fun v => v.category).sum ≤ 8 := by
    rw [List.map_map]
    have : ((fun v : Value => v.category) ∘ ex_v ad) = (fun v => v.category) := by funext v; exact ex_v_cat ad v
    rw [this]
    exact hsum
  refine W.objInit (rest := r.map (ex_v ad)) hx hb hown (hts _ h1) (hts _ h2) (hts _ h3) rfl (by rw [hml]; exact G.2.1.1) rfl hd (Nat.le_trans hfr hR1) ?_ (kk ls H locs G)
  have h9 := lv_room (m := m) (pc := pc) (ls := ls) (rest := (Value.ref a :: r).map (ex_v ad)) hcat
  exact Nat.le_trans (Nat.add_le_add_right h9 12) (Nat.le_trans hlo hR2)
end EXN

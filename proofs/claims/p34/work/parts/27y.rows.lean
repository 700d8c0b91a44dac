/-! ROWS FOR THE LAW: the script is a static array more -/
def ex_cw (n : Nat) (o : Option Value) : Bool := match o with
  | some (.ref k) => decide (k < n) || decide (1000 ≤ k)
  | _ => true
theorem ex_v_agree2 {ad ad' : Nat → Nat} {n : Nat} {v : Value} (h : ex_cw n (some v) = true) (ha : ∀ k, k < n ∨ 1000 ≤ k → ad' k = ad k) : ex_v ad' v = ex_v ad v := by
  cases v with
  | ref k =>
    have hk : k < n ∨ 1000 ≤ k := by simpa [ex_cw] using h
    show Value.ref (ad' k) = Value.ref (ad k)
    rw [ha k hk]
  | _ => rfl
theorem ex_ls_ext2 {ad : Nat → Nat} {n q nL : Nat} {lv : ex_L} {ls : Array Slot} (hn : n < 1000) (h : lv.all (ex_cw n) = true) (hl : ex_ls ad lv nL ls) : ex_ls (ex_ext ad n q) lv nL ls := by
  refine ⟨hl.1, hl.2.1, hl.2.2.1, fun i v hi => ?_⟩
  have h2 : ex_cw n (some v) = true := List.all_eq_true.mp h (some v) (List.mem_of_getElem? hi)
  rw [ex_v_agree2 h2 (ad := ad) (fun k hk => by
    unfold ex_ext
    rw [if_neg (by omega)])]
  exact hl.2.2.2 i v hi
section EXL
variable {p : Program} {l : Launch} {e : Env} {R : Room} {s : State} {m : MethodId} {args : Array Value} {below : List Frame} {meth : Method} {c : Code}
variable {D : va_G} {ad ca : Nat → Nat} {n0 nL fr lo : Nat} {A : Nat → Prop} {cc : ByteArray} {ret : Option FieldType} {own : String} {Q : ex_Q} {Qw : State → Prop} {kc ks : Nat} {xt : ex_xt}
theorem ex_s_lengthX (C : ex_Cx xt p R s m args meth c D ad ca n0 nL fr lo A cc ret own) {pc : Nat} {lv : ex_L} {cs : ex_C} {a n : Nat} {f : Nat → Int32} {v : Int32} {r : ex_V} (hd : decode cc pc = .ok (.arraylength, 1)) (ha : 1000 ≤ a) (ho : xt[a - 1000]? = some (n, f)) (hv : Int32.ofNat n = v)
    (kk : ex_T p l e R s m args below meth c D ad ca n0 nL A kc ks Qw (pc + 1) lv (.int v :: r) cs) : ex_T p l e R s m args below meth c D ad ca n0 nL A kc ks Qw pc lv (.ref a :: r) cs := by
  obtain ⟨hx, hb, hml, hown, hts, hr, hlk, hD, hK, hX, hZ, hAe, hR1, hR2, hxt, hNw⟩ := C
  intro ls H locs G
  have hT := hX (a - 1000) n f ho
  rw [show 1000 + (a - 1000) = a by omega] at hT
  exact va_tlen (rest := r.map (ex_v ad)) hx hb hT G.2.2.2 hv hd (kk ls H locs G)
theorem ex_s_new2 (C : ex_Cx xt p R s m args meth c D ad ca n0 nL fr lo A cc ret own) {pc : Nat} {lv : ex_L} {cs : ex_C} {ix ci N : Nat} {fs : List Value} {st : ex_V} {Cn : String} {T : u_T} {ty : Nat → FieldType} (hd : decode cc pc = .ok (.new ix, 3)) (hA : ∀ x, s.heap.size ≤ x → A x) (c1 : lv.all (ex_cw n0) = true) (c2 : st.all (ex_cv n0) = true) (c3 : cs.all (ex_ce n0) = true) (c4 : n0 < 1000) (hlen : cs.length = n0)
    (h1 : ec_cl[ci]? = some (Cn, T, N)) (h2 : Cond.classLink own ix Cn ∈ ec_tb) (h3 : Cond.instantiable Cn N ∈ ec_tb) (h4 : Cond.initialized Cn ∈ ec_tb) (hty : ∀ k, k < N → parseFieldDescriptor (T k).2.2.1 = some (ty k)) (hfs : ∀ j, j < N → defaultValue (ty j) = vp_V fs j) (hfc : fs.all (ex_cv 0) = true)
    (hrc : kc + 1 ≤ R.cells ∧ ks + N ≤ R.slots)
    (kk : ∀ q, ex_Cx xt p R s m args meth c D (ex_ext ad n0 q) ca (n0 + 1) nL fr lo A cc ret own → ex_T p l e R s m args below meth c D (ex_ext ad n0 q) ca (n0 + 1) nL A (kc + 1) (ks + N) Qw (pc + 3) lv (.ref n0 :: st) (cs ++ [.inr (ci, fs)])) : ex_T p l e R s m args below meth c D ad ca n0 nL A kc ks Qw pc lv st cs := by
  have C' := C
  obtain ⟨hx, hb, hml, hown, hts, hr, hlk, hD, hK, hX, hZ, hAe, hR1, hR2, hxt, hNw⟩ := C
  subst hlen
  intro ls H locs G
  have hfm : fs.map (ex_v ad) = fs := by
    have : ∀ v ∈ fs, ex_v ad v = v := fun v hv => by
      have := List.all_eq_true.mp hfc v hv
      cases v with
      | ref k => simp [ex_cv] at this
      | _ => rfl
    exact (List.map_congr_left this).trans (List.map_id fs)
  have hce : ex_ce cs.length (.inr (ci, fs)) = true := by
    refine List.all_eq_true.mpr (fun v hv => ?_)
    have := List.all_eq_true.mp hfc v hv
    cases v with
    | ref k => simp [ex_cv] at this
    | _ => rfl
  refine va_new (D := D) (ci := ci) (fs := fs) (C := Cn) (T := T) (N := N) (rest := st.map (ex_v ad)) hx hb hts (ec_clok h1).1 ty hty hown (hts _ h2) (hts _ h3) (hts _ h4) hK G.2.2.1 (hD.va G.1) G.2.2.2 hA h1 hfs hrc.1 hrc.2 hd (fun q H1 hP1 hD1 hS1 => ?_)
  have hw : ex_w (ex_ext ad cs.length q) ca (cs ++ [.inr (ci, fs)]) = ex_w ad ca cs ++ [(q, .inr (ci, fs))] := by
    rw [ex_w_ext c3 hce]
    show _ ++ [(q, Sum.inr (ci, fs.map (ex_v ad)))] = _
    rw [hfm]
  have hlen2 : (cs ++ [Sum.inr (ci, fs)] : ex_C).length = cs.length + 1 := by simp
  have hD2 : ex_D (ex_ext ad cs.length q) (cs.length + 1) A := ex_D_ext hlen2 hw.symm hD1
  have k2 := kk q (C'.ext c4 hD2 hA) ls H1 locs ⟨hlen2, ex_ls_ext2 c4 c1 G.2.1, by rw [hw]; exact hP1, hS1⟩
  have hst : (Value.ref cs.length :: st).map (ex_v (ex_ext ad cs.length q)) = Value.ref q :: st.map (ex_v ad) := by
    rw [List.map_cons, ex_st_ext c2]
    show Value.ref (ex_ext ad cs.length q cs.length) :: _ = _
    unfold ex_ext
    rw [if_pos rfl]
  rw [hst] at k2
  exact k2
theorem ex_s_special2 {ad : Nat → Nat} {n0 kc ks : Nat} (C : ex_Cx ec_xt p R s m args meth c D ad ca n0 nL fr lo A cc ret own) {pc : Nat} {lv : ex_L} {cs : ex_C} {ix n a mc ms : Nat} {sp : ex_SN} {as r : ex_V} {Qk : ex_C → Prop} (hd : decode cc pc = .ok (.invokespecial ix, 3)) (hlen : cs.length = n0) (c1 : lv.all (ex_cw n0) = true) (c2 : r.all (ex_cv n0) = true) (c4 : n0 < 1000) (hrc : kc + mc ≤ R.cells ∧ ks + ms ≤ R.slots)
    (hcok : ∃ (y : MethodName) (bytes : ByteArray) (maxL fr' lo' : Nat), fr' + 1 ≤ fr ∧ 8 + (maxL + 11) + lo' ≤ lo ∧ ex_MetN l y bytes maxL fr' lo' mc ms sp ∧ Cond.code y bytes maxL none ∈ ec_tb ∧ Cond.initialized y.cls ∈ ec_tb ∧ (y.cls ≠ "java/lang/invoke/MethodHandle" ∧ y.cls ≠ "java/lang/invoke/VarHandle") ∧
      (Cond.methodLink own ix y ∈ ec_tb ∨ ∃ host, (own, ix, y, host) ∈ ec_ns) ∧ y.name = "<init>" ∧ Cond.instanceMethod y ∈ ec_tb ∧ 1 ≤ n ∧ (parseMethodDescriptor y.desc).map (fun d => d.parameters.length) = some (n - 1)) (hn : as.length + 1 = n) (hsum : (r.map (fun v => v.category)).sum ≤ 8)
    (hsp : sp (.ref a :: as) cs Qk) (kk : ∀ (cs' : ex_C) (ad' : Nat → Nat), Qk cs' → (∀ k, k < n0 ∨ 1000 ≤ k → ad' k = ad k) → ex_Cx ec_xt p R s m args meth c D ad' ca cs'.length nL fr lo A cc ret own → ex_T p l e R s m args below meth c D ad' ca cs'.length nL A (kc + mc) (ks + ms) Qw (pc + 3) lv r cs') : ex_T p l e R s m args below meth c D ad ca n0 nL A kc ks Qw pc lv (as.reverse ++ .ref a :: r) cs := by
  intro ls H locs G
  have hst := ex_start (av := .ref a :: as) C G.1 G.2.2.1 G.2.2.2
  have C' := C
  obtain ⟨hx, hb, hml, hown, hts, hr, hlk, hD, hK, hX, hZ, hAe, hR1, hR2, hxt, hNw⟩ := C
  obtain ⟨y, bytes, maxL, fr', lo', hd', hmx, hM, hcode, hini, hy, hlink, hyn, hinst, -, hpar⟩ := hcok
  subst hlen
  have hM := hM D ad ca H.size (.ref a :: as) cs Qk hsp
  have hroom : fr' + 1 ≤ R.frames ∧ 8 + (maxL + 11) + lo' ≤ R.locals := ⟨Nat.le_trans hd' hR1, Nat.le_trans hmx hR2⟩
  have hp : PreS s H (ex_Pc D ad ca (.ref a :: as) cs cs.length H.size) (.ref (ad a) :: as.map (ex_v ad)) := ⟨ex_blind, hst⟩
  have hstack : (as.reverse ++ Value.ref a :: r).map (ex_v ad) = (as.map (ex_v ad)).reverse ++ Value.ref (ad a) :: r.map (ex_v ad) := by simp [ex_v]
  have hlen2 : (as.map (ex_v ad)).length = n - 1 := by rw [List.length_map]; omega
  have hcat : ((r.map (ex_v ad)).map fun v => v.category).sum ≤ 8 := by
    rw [List.map_map]
    have : ((fun v : Value => v.category) ∘ ex_v ad) = (fun v => v.category) := by funext v; exact ex_v_cat ad v
    rw [this]
    exact hsum
  rw [hstack]
  have hsub : ∀ q, ex_A ad cs.length H.size q → A q := by
    intro q h
    rcases h with h | h
    · exact hAe q (Or.inl h)
    · exact hAe q (Or.inr (Nat.le_trans G.2.2.2.1 h))
  have fin : va_Run p l e R s m args below meth c H locs kc ks mc ms (F0 m pc ls ((as.map (ex_v ad)).reverse ++ Value.ref (ad a) :: r.map (ex_v ad))) (r.map (ex_v ad)) (ex_QN D ad ca Qk cs.length (ex_A ad cs.length H.size) (Value.ref (ad a) :: as.map (ex_v ad)).toArray) (ex_A ad cs.length H.size) → W p l e R s m args below meth c H locs kc ks Qw (F0 m pc ls ((as.map (ex_v ad)).reverse ++ Value.ref (ad a) :: r.map (ex_v ad))) := by
    intro hr T hT X
    obtain ⟨v, st₀, t, T', L, h0, X', hL, e1, e2, ⟨⟨cs', ad', hv, hq, hag, hP', hD'⟩, hz, hk⟩, st⟩ := hr T hT X
    cases hv
    rw [h0] at hz hk
    have C2 : ex_Cx ec_xt p R s m args meth c D ad' ca cs'.length nL fr lo A cc ret own := by
      refine ⟨hx, hb, hml, hown, hts, by assumption, hlk, ⟨hD'.1, fun k hk => hsub _ (hD'.2 k hk)⟩, hK, fun j n f hj => ?_, fun Cn n dd j hj => ?_, fun x h => ?_, hR1, hR2, hxt, hNw⟩
      · rw [hag _ (Or.inr (Nat.le_add_right 1000 j))]; exact hX j n f hj
      · rw [hag _ (Or.inr (Nat.le_add_right 1000 j))]; exact hZ Cn n dd j hj
      · rcases h with ⟨k, hk, rfl⟩ | h
        · exact hsub _ (hD'.2 k hk)
        · exact hAe x (Or.inr h)
    have hl2 : ex_ls ad' lv nL ls := by
      refine ⟨G.2.1.1, G.2.1.2.1, G.2.1.2.2.1, fun i v hi => ?_⟩
      have h2 : ex_cw cs.length (some v) = true := List.all_eq_true.mp c1 (some v) (List.mem_of_getElem? hi)
      rw [ex_v_agree2 h2 hag]
      exact G.2.1.2.2.2 i v hi
    have hst2 : r.map (ex_v ad') = r.map (ex_v ad) := List.map_congr_left (fun v hv => ex_v_agree (List.all_eq_true.mp c2 v hv) hag)
    have k2 := kk cs' ad' hq hag C2 ls T'.heap (locs ++ L) ⟨rfl, hl2, by rw [e1]; exact hP', Nat.le_trans G.2.2.2.1 (by rw [e1]; exact hz), fun q h1 h2 => by rw [e1, hk q (Nat.lt_of_lt_of_le h1 G.2.2.2.1) (fun z => h2 (hsub q z))]; exact G.2.2.2.2.1 q h1 h2, fun q hq => by
      rcases List.mem_append.mp hq with h | h
      · exact G.2.2.2.2.2 q h
      · exact hsub _ (hL q h)⟩
    rw [hst2] at k2
    obtain ⟨t2, a1, b1⟩ := k2 T' rfl X'
    exact ⟨t2, st t2 a1, b1⟩
  rcases hlink with hlink | ⟨host, hlink⟩
  · exact fin (va_runI (n := n - 1) ⟨hx, hb, hml, hown, hts⟩ hM ⟨callB_of (n - 1) hts (ex_good hcode) rfl rfl rfl (hts _ hini) (hts _ hlink) ⟨hy.1, hy.2, hpar⟩ hroom, hyn, hts _ hinst⟩ hp rfl hlen2 G.2.1.1 rfl (lv_room hcat) hd hrc)
  · exact fin (va_runIN (n := n - 1) ⟨hx, hb, hml, hown, hts⟩ hM ⟨va_cnB (n - 1) hts (ex_good hcode) rfl rfl rfl (hNw _ hlink) (hts _ hini) ⟨hy.1, hy.2, hpar⟩ hroom, hyn, hts _ hinst⟩ hp rfl hlen2 G.2.1.1 rfl (lv_room hcat) hd hrc)
end EXL

/-! CONSTRUCTORS' CONTRACTS -/
abbrev ex_SN : Type := ex_V → ex_C → (ex_C → Prop) → Prop
theorem ex_v_agree {ad ad' : Nat → Nat} {n : Nat} {v : Value} (h : ex_cv n v = true) (ha : ∀ k, k < n ∨ 1000 ≤ k → ad' k = ad k) : ex_v ad' v = ex_v ad v := by
  cases v with
  | ref k =>
    have hk : k < n := by simpa [ex_cv] using h
    show Value.ref (ad' k) = Value.ref (ad k)
    rw [ha k (Or.inl hk)]
  | _ => rfl
def ex_QN (D : va_G) (ad ca : Nat → Nat) (Q : ex_C → Prop) (n : Nat) (A : Nat → Prop) : Array Value → State → Outcome → State → Prop := fun _ st oc t => (∃ (cs' : ex_C) (ad' : Nat → Nat), oc = .returned none ∧ Q cs' ∧ (∀ k, k < n ∨ 1000 ≤ k → ad' k = ad k) ∧ va_P D ec_cl (ex_w ad' ca cs') t.heap ∧ ex_D ad' cs'.length A) ∧ va_F A st t
def ex_MetN (l : Launch) (y : MethodName) (bytes : ByteArray) (maxL fr lo mc ms : Nat) (sp : ex_SN) : Prop :=
  ∀ (D : va_G) (ad ca : Nat → Nat) (sz : Nat) (av : ex_V) (cs : ex_C) (Q : ex_C → Prop), sp av cs Q →
    Met l y (.code y bytes maxL none :: ec_tb) { frames := fr, cells := mc, slots := ms, locals := lo } (ex_Pc D ad ca av cs cs.length sz) (ex_QN D ad ca Q cs.length (ex_A ad cs.length sz)) mc ms (ex_A ad cs.length sz)
/-- a constructor's own callee: none is Object's -/
abbrev ex_J : Type := (Nat → Option (Nat × List Value × Nat)) × (Nat → Option (Option (Nat × Nat × Nat × ex_SN)))
def ex_wn (cx : ex_K) (al : ex_J) (cc : ByteArray) (mc ms : Nat) (Q : ex_C → Nat → Nat → Prop) : Nat → Nat → ex_L → ex_V → ex_C → Nat → Nat → Prop
  | 0, _, _, _, _, _, _ => False
  | n + 1, pc, lv, st, cs, kc, ks => match decode cc pc with
    | .ok (.new ix, len) => len = 3 ∧ ex_o (al.1 ix) (fun q => ex_clo cs.length lv st cs = true ∧ kc + 1 ≤ mc ∧ ks + q.2.2 ≤ ms ∧ ex_wn cx al cc mc ms Q n (pc + 3) lv (.ref cs.length :: st) (cs ++ [.inr (q.1, q.2.1)]) (kc + 1) (ks + q.2.2))
    | .ok (.newarray t, len) => len = 2 ∧ ex_o (ex_at t) (fun tag => ex_i1 st (fun x r => ¬ x < 0 ∧ x.toNatClampNeg ≤ 1000 ∧ ex_clo cs.length lv r cs = true ∧ kc + 1 ≤ mc ∧ ks + x.toNatClampNeg ≤ ms ∧ ex_wn cx al cc mc ms Q n (pc + 2) lv (.ref cs.length :: r) (cs ++ [.inl (tag, x.toNatClampNeg, .inl (fun _ => 0))]) (kc + 1) (ks + x.toNatClampNeg)))
    | .ok (.invokespecial ix, len) => len = 3 ∧ ex_o (al.2 ix) (fun o => match o with
      | none => ex_r1 st (fun _ r => (r.map (fun v => v.category)).sum ≤ 8 ∧ ex_wn cx al cc mc ms Q n (pc + 3) lv r cs kc ks)
      | some q => q.1 ≤ st.length ∧ ((st.drop q.1).map (fun v => v.category)).sum ≤ 8 ∧ ex_clo cs.length lv st cs = true ∧ kc + q.2.1 ≤ mc ∧ ks + q.2.2.1 ≤ ms ∧ ex_o (st[q.1 - 1]?) (fun v => match v with
        | .ref _ => q.2.2.2 (st.take q.1).reverse cs (fun cs' => cs.length ≤ cs'.length ∧ ex_wn cx al cc mc ms Q n (pc + 3) lv (st.drop q.1) cs' (kc + q.2.1) (ks + q.2.2.1))
        | _ => False))
    | .ok (.putfield ix, len) => len = 3 ∧ ex_vr st (fun v a r => ex_o (cx.2.1 ix) (fun q => ex_ob cs a q.1 (fun fs => q.2.1 < fs.length ∧ ex_fit q.2.2.2 v ∧ ex_wn cx al cc mc ms Q n (pc + 3) lv r (cs.set a (.inr (q.1, fs.set q.2.1 v))) kc ks)))
    | .ok (.return_, len) => len = 1 ∧ st = [] ∧ Q cs kc ks
    | .ok (i, len) => ex_i ec_xt cx none (fun _ _ => False) i len pc lv st cs (fun pc' lv' st' cs' => ex_wn cx al cc mc ms Q n pc' lv' st' cs' kc ks)
    | .error _ => False
/-- what the tables say of a constructor's links; mc, ms: the most that it makes -/
def ex_nok (l : Launch) (fr lo mc ms : Nat) (cx : ex_K) (al : ex_J) : Prop :=
  (∀ (ix ci : Nat) (fs : List Value) (N : Nat), al.1 ix = some (ci, fs, N) → ∃ Cn T, ∃ ty : Nat → FieldType, ec_cl[ci]? = some (Cn, T, N) ∧ Cond.classLink cx.1 ix Cn ∈ ec_tb ∧ Cond.instantiable Cn N ∈ ec_tb ∧ Cond.initialized Cn ∈ ec_tb ∧ (∀ k, k < N → parseFieldDescriptor (T k).2.2.1 = some (ty k)) ∧ (∀ j, j < N → defaultValue (ty j) = vp_V fs j) ∧ fs.all (ex_cv 0) = true) ∧
  (∀ ix, al.2 ix = some none → Cond.methodLink cx.1 ix Lib.objectInit ∈ ec_tb ∧ Cond.instanceMethod Lib.objectInit ∈ ec_tb ∧ Cond.code Lib.objectInit ⟨#[0xb1]⟩ 1 none ∈ ec_tb ∧ 1 ≤ fr ∧ 8 + 12 ≤ lo) ∧
  (∀ ix n mc' ms' sp, al.2 ix = some (some (n, mc', ms', sp)) → ∃ (y : MethodName) (bytes : ByteArray) (maxL fr' lo' : Nat), fr' + 1 ≤ fr ∧ 8 + (maxL + 11) + lo' ≤ lo ∧ ex_MetN l y bytes maxL fr' lo' mc' ms' sp ∧ Cond.code y bytes maxL none ∈ ec_tb ∧ Cond.initialized y.cls ∈ ec_tb ∧ (y.cls ≠ "java/lang/invoke/MethodHandle" ∧ y.cls ≠ "java/lang/invoke/VarHandle") ∧
    (Cond.methodLink cx.1 ix y ∈ ec_tb ∨ ∃ host, (cx.1, ix, y, host) ∈ ec_ns) ∧ y.name = "<init>" ∧ Cond.instanceMethod y ∈ ec_tb ∧ 1 ≤ n ∧ (parseMethodDescriptor y.desc).map (fun d => d.parameters.length) = some (n - 1)) ∧
  (∀ (ix ci k : Nat) (b : Bool) (ty : FieldType), cx.2.1 ix = some (ci, k, b, ty) → ∃ C T N, ec_cl[ci]? = some (C, T, N) ∧ k < N ∧ Cond.fieldLink cx.1 ix (T k).1 (T k).2.1 (T k).2.2.1 ∈ ec_tb ∧ parseFieldDescriptor (T k).2.2.1 = some ty ∧ ((T k).2.2.2 = false ∨ (T k).2.2.2 = true ∧ (T k).1 = cx.1)) ∧
  (Cond.arrayClass .int ∈ ec_tb ∧ Cond.arrayClass .boolean ∈ ec_tb)
section EXO
variable {p : Program} {l : Launch} {e : Env} {R : Room} {s : State} {m : MethodId} {args : Array Value} {below : List Frame} {meth : Method} {c : Code}
variable {D : va_G} {ca : Nat → Nat} {nL fr lo : Nat} {A : Nat → Prop} {cc : ByteArray} {Qw : State → Prop} {ret : Option FieldType} {own : String}
theorem ex_s_special {ad : Nat → Nat} {n0 kc ks : Nat} (C : ex_Cx ec_xt p R s m args meth c D ad ca n0 nL fr lo A cc ret own) {pc : Nat} {lv : ex_L} {cs : ex_C} {ix n a mc ms : Nat} {sp : ex_SN} {as r : ex_V} {Qk : ex_C → Prop} (hd : decode cc pc = .ok (.invokespecial ix, 3)) (hlen : cs.length = n0) (hclo : ex_clo n0 lv r cs = true) (hrc : kc + mc ≤ R.cells ∧ ks + ms ≤ R.slots)
    (hcok : ∃ (y : MethodName) (bytes : ByteArray) (maxL fr' lo' : Nat), fr' + 1 ≤ fr ∧ 8 + (maxL + 11) + lo' ≤ lo ∧ ex_MetN l y bytes maxL fr' lo' mc ms sp ∧ Cond.code y bytes maxL none ∈ ec_tb ∧ Cond.initialized y.cls ∈ ec_tb ∧ (y.cls ≠ "java/lang/invoke/MethodHandle" ∧ y.cls ≠ "java/lang/invoke/VarHandle") ∧
      (Cond.methodLink own ix y ∈ ec_tb ∨ ∃ host, (own, ix, y, host) ∈ ec_ns) ∧ y.name = "<init>" ∧ Cond.instanceMethod y ∈ ec_tb ∧ 1 ≤ n ∧ (parseMethodDescriptor y.desc).map (fun d => d.parameters.length) = some (n - 1)) (hn : as.length + 1 = n) (hsum : (r.map (fun v => v.category)).sum ≤ 8)
    (hsp : sp (.ref a :: as) cs Qk) (kk : ∀ (cs' : ex_C) (ad' : Nat → Nat), Qk cs' → (∀ k, k < n0 ∨ 1000 ≤ k → ad' k = ad k) → ex_Cx ec_xt p R s m args meth c D ad' ca cs'.length nL fr lo A cc ret own → ex_T p l e R s m args below meth c D ad' ca cs'.length nL A (kc + mc) (ks + ms) Qw (pc + 3) lv r cs') : ex_T p l e R s m args below meth c D ad ca n0 nL A kc ks Qw pc lv (as.reverse ++ .ref a :: r) cs := by
  intro ls H locs G
  have hst := ex_start (av := .ref a :: as) C G.1 G.2.2.1 G.2.2.2
  have C' := C
  obtain ⟨hx, hb, hml, hown, hts, hr, hlk, hD, hK, hX, hZ, hAe, hR1, hR2, hxt, hNw⟩ := C
  obtain ⟨y, bytes, maxL, fr', lo', hd', hmx, hM, hcode, hini, hy, hlink, hyn, hinst, -, hpar⟩ := hcok
  subst hlen
  have hM := hM D ad ca H.size (.ref a :: as) cs Qk hsp
  have hroom : fr' + 1 ≤ R.frames ∧ 8 + (maxL + 11) + lo' ≤ R.locals := ⟨Nat.le_trans hd' hR1, Nat.le_trans hmx hR2⟩
  have hp : PreS s H (ex_Pc D ad ca (.ref a :: as) cs cs.length H.size) (.ref (ad a) :: as.map (ex_v ad)) := ⟨ex_blind, hst⟩
  have hstack : (as.reverse ++ Value.ref a :: r).map (ex_v ad) = (as.map (ex_v ad)).reverse ++ Value.ref (ad a) :: r.map (ex_v ad) := by simp [ex_v]
  have hlen2 : (as.map (ex_v ad)).length = n - 1 := by rw [List.length_map]; omega
  have hcat : ((r.map (ex_v ad)).map fun v => v.category).sum ≤ 8 := by
    rw [List.map_map]
    have : ((fun v : Value => v.category) ∘ ex_v ad) = (fun v => v.category) := by funext v; exact ex_v_cat ad v
    rw [this]
    exact hsum
  simp only [ex_clo, Bool.and_eq_true, decide_eq_true_eq] at hclo
  obtain ⟨⟨⟨c1, c2⟩, c3⟩, c4⟩ := hclo
  rw [hstack]
  have hsub : ∀ q, ex_A ad cs.length H.size q → A q := by
    intro q h
    rcases h with h | h
    · exact hAe q (Or.inl h)
    · exact hAe q (Or.inr (Nat.le_trans G.2.2.2.1 h))
  have fin : va_Run p l e R s m args below meth c H locs kc ks mc ms (F0 m pc ls ((as.map (ex_v ad)).reverse ++ Value.ref (ad a) :: r.map (ex_v ad))) (r.map (ex_v ad)) (ex_QN D ad ca Qk cs.length (ex_A ad cs.length H.size) (Value.ref (ad a) :: as.map (ex_v ad)).toArray) (ex_A ad cs.length H.size) → W p l e R s m args below meth c H locs kc ks Qw (F0 m pc ls ((as.map (ex_v ad)).reverse ++ Value.ref (ad a) :: r.map (ex_v ad))) := by
    intro hr T hT X
    obtain ⟨v, st₀, t, T', L, h0, X', hL, e1, e2, ⟨⟨cs', ad', hv, hq, hag, hP', hD'⟩, hz, hk⟩, st⟩ := hr T hT X
    cases hv
    rw [h0] at hz hk
    have C2 : ex_Cx ec_xt p R s m args meth c D ad' ca cs'.length nL fr lo A cc ret own := by
      refine ⟨hx, hb, hml, hown, hts, by assumption, hlk, ⟨hD'.1, fun k hk => hsub _ (hD'.2 k hk)⟩, hK, fun j n f hj => ?_, fun Cn n dd j hj => ?_, fun x h => ?_, hR1, hR2, hxt, hNw⟩
      · rw [hag _ (Or.inr (Nat.le_add_right 1000 j))]; exact hX j n f hj
      · rw [hag _ (Or.inr (Nat.le_add_right 1000 j))]; exact hZ Cn n dd j hj
      · rcases h with ⟨k, hk, rfl⟩ | h
        · exact hsub _ (hD'.2 k hk)
        · exact hAe x (Or.inr h)
    have hl2 : ex_ls ad' lv nL ls := by
      refine ⟨G.2.1.1, G.2.1.2.1, G.2.1.2.2.1, fun i v hi => ?_⟩
      have h2 : ex_cv cs.length v = true := List.all_eq_true.mp c1 (some v) (List.mem_of_getElem? hi)
      rw [ex_v_agree h2 hag]
      exact G.2.1.2.2.2 i v hi
    have hst2 : r.map (ex_v ad') = r.map (ex_v ad) := List.map_congr_left (fun v hv => ex_v_agree (List.all_eq_true.mp c2 v hv) hag)
    have k2 := kk cs' ad' hq hag C2 ls T'.heap (locs ++ L) ⟨rfl, hl2, by rw [e1]; exact hP', Nat.le_trans G.2.2.2.1 (by rw [e1]; exact hz), fun q h1 h2 => by rw [e1, hk q (Nat.lt_of_lt_of_le h1 G.2.2.2.1) (fun z => h2 (hsub q z))]; exact G.2.2.2.2.1 q h1 h2, fun q hq => by
      rcases List.mem_append.mp hq with h | h
      · exact G.2.2.2.2.2 q h
      · exact hsub _ (hL q h)⟩
    rw [hst2] at k2
    obtain ⟨t2, a1, b1⟩ := k2 T' rfl X'
    exact ⟨t2, st t2 a1, b1⟩
  rcases hlink with hlink | ⟨host, hlink⟩
  · exact fin (va_runI (n := n - 1) ⟨hx, hb, hml, hown, hts⟩ hM ⟨callB_of (n - 1) hts (ex_good hcode) rfl rfl rfl (hts _ hini) (hts _ hlink) ⟨hy.1, hy.2, hpar⟩ hroom, hyn, hts _ hinst⟩ hp rfl hlen2 G.2.1.1 rfl (lv_room hcat) hd hrc)
  · exact fin (va_runIN (n := n - 1) ⟨hx, hb, hml, hown, hts⟩ hM ⟨va_cnB (n - 1) hts (ex_good hcode) rfl rfl rfl (hNw _ hlink) (hts _ hini) ⟨hy.1, hy.2, hpar⟩ hroom, hyn, hts _ hinst⟩ hp rfl hlen2 G.2.1.1 rfl (lv_room hcat) hd hrc)
end EXO
section EXP
variable {p : Program} {l : Launch} {e : Env} {R : Room} {s : State} {m : MethodId} {args : Array Value} {below : List Frame} {meth : Method} {c : Code}
variable {D : va_G} {ca : Nat → Nat} {nL fr lo mc ms : Nat} {A : Nat → Prop} {cc : ByteArray} {Qw : State → Prop}
theorem ex_T_len {ad : Nat → Nat} {n0 kc ks pc : Nat} {lv : ex_L} {st : ex_V} {cs : ex_C} (h : cs.length = n0 → ex_T p l e R s m args below meth c D ad ca n0 nL A kc ks Qw pc lv st cs) : ex_T p l e R s m args below meth c D ad ca n0 nL A kc ks Qw pc lv st cs := fun ls H locs G => h G.1 ls H locs G
theorem ex_drop_all {n k : Nat} {st : ex_V} (h : st.all (ex_cv n) = true) : (st.drop k).all (ex_cv n) = true := List.all_eq_true.mpr (fun v hv => List.all_eq_true.mp h v (List.mem_of_mem_drop hv))
set_option maxHeartbeats 4000000 in
theorem ex_wn_sound {cx : ex_K} {al : ex_J} {Q : ex_C → Nat → Nat → Prop} {ad0 : Nat → Nat} {n00 : Nat} (hin2 : meth.name = "<init>") (hok : ex_ok l fr lo cx) (hnok : ex_nok l fr lo mc ms cx al) (hA : ∀ x, s.heap.size ≤ x → A x) (hR : mc ≤ R.cells ∧ ms ≤ R.slots)
    (hV : ∀ ad n0 pc lv cs kc ks, decode cc pc = .ok (.return_, 1) → Q cs kc ks → kc ≤ mc ∧ ks ≤ ms → (∀ k, k < n00 ∨ 1000 ≤ k → ad k = ad0 k) → ex_Cx ec_xt p R s m args meth c D ad ca n0 nL fr lo A cc none cx.1 → ex_T p l e R s m args below meth c D ad ca n0 nL A kc ks Qw pc lv [] cs) :
    ∀ n pc lv st cs kc ks, ex_wn cx al cc mc ms Q n pc lv st cs kc ks → kc ≤ mc ∧ ks ≤ ms → ∀ ad n0, n00 ≤ n0 → (∀ k, k < n00 ∨ 1000 ≤ k → ad k = ad0 k) → ex_Cx ec_xt p R s m args meth c D ad ca n0 nL fr lo A cc none cx.1 → ex_T p l e R s m args below meth c D ad ca n0 nL A kc ks Qw pc lv st cs := by
  intro n
  induction n with
  | zero => intro pc lv st cs kc ks h; exact False.elim h
  | succ n ih =>
    intro pc lv st cs kc ks h hk ad n0 hn0 hag C
    refine ex_T_len (fun hlen => ?_)
    unfold ex_wn at h
    split at h
    · rename_i ix len hd
      obtain ⟨rfl, h⟩ := h
      obtain ⟨⟨ci, fs, N⟩, hq, hcl, hk1, hk2, h⟩ := ex_o.at h
      obtain ⟨Cn, T, ty, g1, g2, g3, g4, g5, g6, g7⟩ := hnok.1 _ _ _ _ hq
      have c4 : n0 < 1000 := by
        simp only [ex_clo, Bool.and_eq_true, decide_eq_true_eq] at hcl
        rw [← hlen]; exact hcl.2
      refine ex_s_new C hd hA (by rw [← hlen]; exact hcl) hlen g1 g2 g3 g4 g5 g6 g7 ⟨Nat.le_trans hk1 hR.1, Nat.le_trans hk2 hR.2⟩ (fun q C2 => ?_)
      rw [hlen] at h
      refine ih _ _ _ _ _ _ h ⟨hk1, hk2⟩ _ _ (Nat.le_succ_of_le hn0) (fun k hk => ?_) C2
      unfold ex_ext
      rw [if_neg (by omega)]
      exact hag k hk
    · rename_i t len hd
      obtain ⟨rfl, h⟩ := h
      obtain ⟨tag, ht, h⟩ := ex_o.at h
      obtain ⟨x, r, rfl, hx0, hx1, hcl, hk1, hk2, h3⟩ := ex_i1.at h
      have c4 : n0 < 1000 := by
        simp only [ex_clo, Bool.and_eq_true, decide_eq_true_eq] at hcl
        rw [← hlen]; exact hcl.2
      refine ex_s_newarray C hd hA (by rw [← hlen]; exact hcl) hlen ht hx0 rfl hx1 hnok.2.2.2.2 ⟨Nat.le_trans hk1 hR.1, Nat.le_trans hk2 hR.2⟩ (fun q C2 => ?_)
      rw [hlen] at h3
      refine ih _ _ _ _ _ _ h3 ⟨hk1, hk2⟩ _ _ (Nat.le_succ_of_le hn0) (fun k hk => ?_) C2
      unfold ex_ext
      rw [if_neg (by omega)]
      exact hag k hk
    · rename_i ix len hd
      obtain ⟨rfl, h⟩ := h
      obtain ⟨o, hq, h⟩ := ex_o.at h
      cases o with
      | none =>
        obtain ⟨a, r, rfl, hsum, h3⟩ := ex_r1.at h
        obtain ⟨g1, g2, g3, g4, g5⟩ := hnok.2.1 _ hq
        exact ex_s_objInit C hd g1 g2 g3 g4 g5 hsum (ih _ _ _ _ _ _ h3 hk _ _ hn0 hag C)
      | some q =>
        obtain ⟨nn, mc', ms', sp⟩ := q
        obtain ⟨hn, hsum, hcl, hk1, hk2, h⟩ := h
        obtain ⟨v, hv, h⟩ := ex_o.at h
        split at h
        · rename_i a
          have hcok := hnok.2.2.1 _ _ _ _ _ hq
          have hn1 : 1 ≤ nn := by
            obtain ⟨y, bytes, maxL, fr', lo', -, -, -, -, -, -, -, -, -, h1, -⟩ := hcok
            exact h1
          obtain ⟨e1, e2⟩ := ex_split hn hn1 hv
          dsimp only at h hk1 hk2 hsum
          rw [e2] at h
          have hcl2 : ex_clo n0 lv (st.drop nn) cs = true := by
            simp only [ex_clo, Bool.and_eq_true, decide_eq_true_eq] at hcl ⊢
            rw [← hlen]
            exact ⟨⟨⟨hcl.1.1.1, ex_drop_all hcl.1.1.2⟩, hcl.1.2⟩, hcl.2⟩
          have goal := ex_s_special (e := e) (below := below) (Qw := Qw) (l := l) C hd hlen hcl2 ⟨Nat.le_trans hk1 hR.1, Nat.le_trans hk2 hR.2⟩ hcok (by rw [List.length_reverse, List.length_take]; omega) hsum h (fun cs' ad' hq' hag' C2 => by
            refine ih _ _ _ _ _ _ hq'.2 ⟨hk1, hk2⟩ _ _ ?_ (fun k hk => ?_) C2
            · exact Nat.le_trans hn0 (by rw [← hlen]; exact hq'.1)
            · rw [hag' k (hk.imp (fun h => Nat.lt_of_lt_of_le h hn0) id)]
              exact hag k hk)
          rw [← e1] at goal
          exact goal
        · exact h.elim
    · rename_i ix len hd
      obtain ⟨rfl, h⟩ := h
      obtain ⟨v, a, r, rfl, h3⟩ := ex_vr.at h
      obtain ⟨⟨ci, k, b, ty⟩, hq, h3⟩ := ex_o.at h3
      obtain ⟨fs, ho, hl, hf, h3⟩ := ex_ob.at h3
      obtain ⟨Cn, T, N, g1, g2, g3, g4, g5⟩ := hnok.2.2.2.1 _ _ _ _ _ hq
      have k2 := ih _ _ _ _ _ _ h3 hk ad n0 hn0 hag C
      rcases g5 with g5 | ⟨g5, g6⟩
      · exact ex_s_putfield C hd ho hl hf ⟨Cn, T, N, g1, g2, g3, g4, g5⟩ k2
      · exact ex_s_putfinal C hin2 hd ho hl hf ⟨Cn, T, N, g1, g2, g3, g4, g5, g6⟩ k2
    · rename_i len hd
      obtain ⟨rfl, rfl, h⟩ := h
      exact hV ad n0 pc lv cs kc ks hd h hk hag C
    · rename_i i len hne1 hne2 hne3 hne4 hne5 hd
      exact ex_i_sound C hok ⟨Nat.le_trans hk.1 hR.1, Nat.le_trans hk.2 hR.2⟩ (fun _ _ _ _ _ _ h => False.elim h) (fun _ _ _ _ _ h => False.elim h) hd h (fun pc' lv' st' cs' h' => ih _ _ _ _ _ _ h' hk _ _ hn0 hag C)
    · exact False.elim h
end EXP
/-- a constructor's contract out of its walk -/
theorem ex_metN {l : Launch} {y : MethodName} {cc : ByteArray} {maxL fr lo mc ms fuel : Nat} {cx : ex_K} {al : ex_J} {sp : ex_SN} (hy : plainName y.cls = true) (hyn : y.name = "<init>") (hown : cx.1 = y.cls) (hok : ex_ok l fr lo cx) (hnok : ex_nok l fr lo mc ms cx al)
    (h : ∀ av cs Q, sp av cs Q → (∀ w ∈ av, w.category = 1) ∧ av.length ≤ maxL ∧ ex_wn cx al cc mc ms (fun cs' _ _ => Q cs') fuel 0 (ex_l0 av maxL) [] cs 0 0) : ex_MetN l y cc maxL fr lo mc ms sp := by
  intro D ad ca sz av cs Q hsp
  obtain ⟨hcat, hlen, hT⟩ := h av cs Q hsp
  refine Met.ofW (cc := cc) (maxL := maxL) (ret := none) hy rfl ?_
  intro p e s m args below meth c s₁ B hml hv
  obtain ⟨rfl, hsz, hn, hP, hD, hK, hX, hZ, hNw0⟩ := hv
  subst hsz
  have hts0 := atoms_spec (ws := .code y cc maxL none :: ec_tb) B.pre
  have hin2 : meth.name = "<init>" := ((name_of_methodNamed B.named B.method).1).trans hyn
  have hcx : ex_Cx ec_xt p (headSpec (.code y cc maxL none :: ec_tb) { frames := fr, cells := mc, slots := ms, locals := lo }).room s m ((av.map (ex_v ad)).toArray) meth c D ad ca cs.length maxL fr lo (ex_A ad cs.length s.heap.size) cc none cx.1 :=
    ⟨B.exec, B.bytes, hml, by rw [hown]; exact findClass_of_methodNamed B.named, fun w hw => hts0 w (List.mem_cons_of_mem _ hw), B.returns, B.notSynchronized, hD, hK, hX, hZ, fun _ h => h, Nat.le_refl _, Nat.le_refl _, fun _ _ h => h, hNw0⟩
  have hcat' : ∀ w ∈ av.map (ex_v ad), w.category = 1 := by
    intro w hw
    obtain ⟨v, hv, rfl⟩ := List.mem_map.mp hw
    rw [ex_v_cat]
    exact hcat v hv
  have hsl := ex_sl_len _ hcat'
  rw [List.length_map] at hsl
  have hl := lv_entry (av.map (ex_v ad)) (n := maxL) (by rw [hsl]; exact hlen)
  rw [lg_entry_eq]
  have hT2 := ex_wn_sound (e := e) (below := below) (Qw := MQ below (ex_QN D ad ca Q cs.length (ex_A ad cs.length s.heap.size)) ((av.map (ex_v ad)).toArray) s mc ms (ex_A ad cs.length s.heap.size)) (ad0 := ad) (n00 := cs.length) hin2 hok hnok (fun x h => Or.inr h) ⟨Nat.le_refl _, Nat.le_refl _⟩ (fun ad' n0 pc lv cs' kc ks hd hq hk hag C2 => by
    intro ls H locs G
    obtain ⟨hx, hb, hml, hown, hts, hr, hlk, hD2, hK2, hX2, hZ2, hAe, hR1, hR2, hxt, hNw⟩ := C2
    refine W.widen (k := mc) (n := ms) hk.1 hk.2 ?_
    exact W.vret hx hb hr (fun t ht hW => ⟨⟨cs', ad', rfl, hq, hag, by rw [ht]; exact G.2.2.1, by rw [G.1]; exact hD2⟩, G.2.2.2.F ht⟩) G.2.2.2.2.2 hd hlk) fuel 0 (ex_l0 av maxL) [] cs 0 0 hT ⟨Nat.zero_le _, Nat.zero_le _⟩ ad cs.length (Nat.le_refl _) (fun _ _ => rfl) hcx
  refine hT2 _ s.heap [] ⟨rfl, ⟨hl.1, hl.2.1, ?_, ?_⟩, hP, va_S.rf⟩
  · unfold ex_l0
    rw [List.length_append, List.length_map, List.length_replicate]
    omega
  · intro i v hi
    unfold ex_l0 at hi
    by_cases hia : i < av.length
    · rw [List.getElem?_append_left (by rw [List.length_map]; exact hia), List.getElem?_map] at hi
      cases hav : av[i]? with
      | none => rw [hav] at hi; cases hi
      | some w =>
        rw [hav] at hi
        have hw : w = v := Option.some.inj (Option.some.inj hi)
        subst hw
        have := ex_args_mem (av.map (ex_v ad)) 0 i (ex_v ad w) hcat' (by rw [List.getElem?_map, hav]; rfl)
        rw [Nat.zero_add] at this
        exact hl.2.2 (i, ex_v ad w) this
    · rw [List.getElem?_append_right (by rw [List.length_map]; omega), List.getElem?_replicate] at hi
      split at hi <;> cases hi

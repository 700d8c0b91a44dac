/-! THE ENGINE: walks over abstract states. A ref is a PLACE in the list of cells; ad says its address; ca says which array kind a tag is (0: int, 1: boolean). -/
abbrev ex_V : Type := List Value
abbrev ex_C : Type := List va_E
abbrev ex_Q : Type := Option Value → ex_C → Prop
abbrev ex_S : Type := ex_V → ex_C → ex_Q → Prop
abbrev ex_L : Type := List (Option Value)
def ex_v (ad : Nat → Nat) (v : Value) : Value := match v with
  | .ref k => .ref (ad k)
  | w => w
theorem ex_v_cat (ad : Nat → Nat) (v : Value) : (ex_v ad v).category = v.category := by cases v <;> rfl
def ex_e (ad ca : Nat → Nat) (e : va_E) : va_E := match e with
  | .inl a => .inl (ca a.1, a.2)
  | .inr o => .inr (o.1, o.2.map (ex_v ad))
def ex_w (ad ca : Nat → Nat) (cs : ex_C) : va_W := cs.mapIdx (fun k e => (ad k, ex_e ad ca e))
theorem ex_w_get {ad ca : Nat → Nat} {cs : ex_C} {k : Nat} {e : va_E} (h : cs[k]? = some e) : (ex_w ad ca cs)[k]? = some (ad k, ex_e ad ca e) := by
  unfold ex_w
  rw [List.getElem?_mapIdx, h]
  rfl
theorem ex_w_at {ad ca : Nat → Nat} {cs : ex_C} {k : Nat} {q : Nat × va_E} (h : (ex_w ad ca cs)[k]? = some q) : ∃ e, cs[k]? = some e ∧ q = (ad k, ex_e ad ca e) := by
  unfold ex_w at h
  rw [List.getElem?_mapIdx] at h
  cases hc : cs[k]? with
  | none => rw [hc] at h; cases h
  | some e => rw [hc] at h; exact ⟨e, rfl, (Option.some.inj h).symm⟩
theorem ex_w_len {ad ca : Nat → Nat} {cs : ex_C} : (ex_w ad ca cs).length = cs.length := by
  unfold ex_w
  exact List.length_mapIdx
theorem ex_w_set {ad ca : Nat → Nat} {cs : ex_C} {k : Nat} {e : va_E} : (ex_w ad ca cs).set k (ad k, ex_e ad ca e) = ex_w ad ca (cs.set k e) := by
  apply List.ext_getElem?
  intro i
  unfold ex_w
  rw [List.getElem?_mapIdx, List.getElem?_set, List.getElem?_set, List.getElem?_mapIdx, List.length_mapIdx]
  by_cases hk : k = i
  · subst hk
    simp only [if_true]
    split <;> rfl
  · simp only [if_neg hk]
/-- the places' addresses are apart, and of a kind -/
def ex_D (ad : Nat → Nat) (n : Nat) (A : Nat → Prop) : Prop := (∀ i j, i < n → j < n → ad i = ad j → i = j) ∧ ∀ k, k < n → A (ad k)
theorem ex_D.va {ad ca : Nat → Nat} {cs : ex_C} {n : Nat} {A : Nat → Prop} (h : ex_D ad n A) (hn : cs.length = n) : va_D A (ex_w ad ca cs) := by
  have lt : ∀ {k : Nat} {q : Nat × va_E}, (ex_w ad ca cs)[k]? = some q → k < n ∧ q.1 = ad k := by
    intro k q hq
    obtain ⟨e, he, hqe⟩ := ex_w_at hq
    exact ⟨by rw [← hn]; exact (List.getElem?_eq_some_iff.mp he).1, by rw [hqe]⟩
  refine ⟨fun i j p q hi hj hpq => ?_, fun k q hk => ?_⟩
  · obtain ⟨h1, e1⟩ := lt hi
    obtain ⟨h2, e2⟩ := lt hj
    exact h.1 i j h1 h2 (by rw [← e1, ← e2]; exact hpq)
  · obtain ⟨h1, e1⟩ := lt hk
    rw [e1]
    exact h.2 k h1
/-- which cells a walk may change -/
def ex_A (ad : Nat → Nat) (n sz : Nat) : Nat → Prop := fun q => (∃ k, k < n ∧ q = ad k) ∨ sz ≤ q
theorem ex_D.self {ad : Nat → Nat} {n sz : Nat} {A : Nat → Prop} (h : ex_D ad n A) : ex_D ad n (ex_A ad n sz) := ⟨h.1, fun k hk => Or.inl ⟨k, hk, rfl⟩⟩
/-- what is known of the locals -/
def ex_ls (ad : Nat → Nat) (lv : ex_L) (nL : Nat) (ls : Array Slot) : Prop := ls.size = nL ∧ lv_wf ls ∧ lv.length ≤ nL ∧ ∀ (i : Nat) (v : Value), lv[i]? = some (some v) → ls[i]? = some (.val (ex_v ad v))
def ex_ll (ad : Nat → Nat) (lv : ex_L) : List (Nat × Value) := lv.zipIdx.filterMap (fun q => q.1.map (fun v => (q.2, ex_v ad v)))
theorem ex_ll_mem {ad : Nat → Nat} {lv : ex_L} {q : Nat × Value} : q ∈ ex_ll ad lv ↔ ∃ v, lv[q.1]? = some (some v) ∧ q.2 = ex_v ad v := by
  unfold ex_ll
  rw [List.mem_filterMap]
  constructor
  · rintro ⟨⟨o, i⟩, h1, h2⟩
    rw [List.mk_mem_zipIdx_iff_getElem?] at h1
    cases o with
    | none => cases h2
    | some v =>
      have := (Option.some.inj h2)
      subst this
      exact ⟨v, h1, rfl⟩
  · rintro ⟨v, h1, h2⟩
    refine ⟨(some v, q.1), ?_, ?_⟩
    · rw [List.mk_mem_zipIdx_iff_getElem?]; exact h1
    · show some (q.1, ex_v ad v) = some q
      rw [← h2]
theorem ex_ls.has {ad : Nat → Nat} {lv : ex_L} {nL : Nat} {ls : Array Slot} (h : ex_ls ad lv nL ls) : lv_has ls nL (ex_ll ad lv) := by
  refine ⟨h.1, h.2.1, fun q hq => ?_⟩
  obtain ⟨v, h1, h2⟩ := ex_ll_mem.mp hq
  rw [h2]
  exact h.2.2.2 _ _ h1
/-- no value of two slots begins just below i -/
def ex_so (lv : ex_L) (i : Nat) : Prop := i < lv.length ∧ match i with
  | 0 => True
  | j + 1 => match lv[j]? with
    | some (some w) => w.category = 1
    | _ => True
theorem ex_so.at {lv : ex_L} {i j : Nat} {w : Value} (h : ex_so lv i) (hj : j + 1 = i) (hw : lv[j]? = some (some w)) : w.category = 1 := by
  subst hj
  have h2 := h.2
  simp only [hw] at h2
  exact h2
theorem ex_ls.set1 {ad : Nat → Nat} {lv : ex_L} {nL i : Nat} {ls ls' : Array Slot} {v : Value} (h : ex_ls ad lv nL ls) (hs : ex_so lv i) (h' : lv_has ls' nL ((i, ex_v ad v) :: (ex_ll ad lv).filter (fun q => !(q.1 == i) && !(q.1 + 1 == i && q.2.category == 2)))) : ex_ls ad (lv.set i (some v)) nL ls' := by
  refine ⟨h'.1, h'.2.1, by rw [List.length_set]; exact h.2.2.1, fun j w hj => ?_⟩
  by_cases hij : j = i
  · subst hij
    rw [List.getElem?_set_self hs.1] at hj
    cases hj
    exact h'.2.2 (j, ex_v ad v) List.mem_cons_self
  · rw [List.getElem?_set_ne (Ne.symm hij)] at hj
    refine h'.2.2 (j, ex_v ad w) (List.mem_cons_of_mem _ (List.mem_filter.mpr ⟨ex_ll_mem.mpr ⟨w, hj, rfl⟩, ?_⟩))
    by_cases hj1 : j + 1 = i
    · have hc := hs.at hj1 hj
      simp [hij, ex_v_cat, hc]
    · simp [hij, hj1]
theorem ex_ls.set2 {ad : Nat → Nat} {lv : ex_L} {nL i : Nat} {ls ls' : Array Slot} {v : Value} (h : ex_ls ad lv nL ls) (hs : ex_so lv i) (h' : lv_has ls' nL ((i, ex_v ad v) :: (ex_ll ad lv).filter (fun q => !(q.1 == i) && (!(q.1 == i + 1) && !(q.1 + 1 == i && q.2.category == 2))))) : ex_ls ad ((lv.set i (some v)).set (i + 1) none) nL ls' := by
  refine ⟨h'.1, h'.2.1, by rw [List.length_set, List.length_set]; exact h.2.2.1, fun j w hj => ?_⟩
  by_cases hi1 : j = i + 1
  · subst hi1
    rw [List.getElem?_set] at hj
    split at hj
    · split at hj <;> cases hj
    · exact absurd rfl (by assumption)
  · rw [List.getElem?_set_ne (Ne.symm hi1)] at hj
    by_cases hij : j = i
    · subst hij
      rw [List.getElem?_set_self hs.1] at hj
      cases hj
      exact h'.2.2 (j, ex_v ad v) List.mem_cons_self
    · rw [List.getElem?_set_ne (Ne.symm hij)] at hj
      refine h'.2.2 (j, ex_v ad w) (List.mem_cons_of_mem _ (List.mem_filter.mpr ⟨ex_ll_mem.mpr ⟨w, hj, rfl⟩, ?_⟩))
      by_cases hj1 : j + 1 = i
      · have hc := hs.at hj1 hj
        simp [hij, hi1, ex_v_cat, hc]
      · simp [hij, hi1, hj1]
/-- static arrays: places from 1000 on; nobody writes them -/
abbrev ex_xt : Type := List (Nat × (Nat → Int32))
def ex_X (xt : ex_xt) (ad : Nat → Nat) (A : Nat → Prop) (U : State) (H : Heap) : Prop := ∀ (j n : Nat) (f : Nat → Int32), xt[j]? = some (n, f) → va_T .int (ad (1000 + j)) n (fun i => .int (f i)) A U H
def ex_Z (ad : Nat → Nat) (A : Nat → Prop) (U : State) (H : Heap) : Prop := ∀ (C n d : String) (j : Nat), (C, n, d, j) ∈ ec_zs → va_Z C n d (.ref (ad (1000 + j))) A U H
def ex_Nw (U : State) : Prop := ∀ q ∈ ec_ns, va_Nw (.methodLinkNest q.1 q.2.1 q.2.2.1 q.2.2.2) U
abbrev ex_tys (ca : Nat → Nat) : List (ClassId × FieldType) := [(ca 0, .int), (ca 1, .boolean)]
/-- the world of a state -/
def ex_U (D : va_G) (ad ca : Nat → Nat) (cs : ex_C) (n : Nat) (A : Nat → Prop) (U : State) : Prop := cs.length = n ∧ va_P D ec_cl (ex_w ad ca cs) U.heap ∧ ex_D ad n A ∧ va_K D ec_cl (ex_tys ca) U ∧ ex_X ec_xt ad A U U.heap ∧ ex_Z ad A U U.heap ∧ ex_Nw U
def ex_Pc (D : va_G) (ad ca : Nat → Nat) (av : ex_V) (cs : ex_C) (n sz : Nat) : Array Value → State → Prop := fun v U => v = (av.map (ex_v ad)).toArray ∧ U.heap.size = sz ∧ ex_U D ad ca cs n (ex_A ad n sz) U
def ex_Qc (D : va_G) (ad ca : Nat → Nat) (Q : ex_Q) (n : Nat) (A : Nat → Prop) : Array Value → State → Outcome → State → Prop := fun _ st oc t => (∃ (r : Option Value) (cs' : ex_C), oc = .returned (r.map (ex_v ad)) ∧ Q r cs' ∧ cs'.length = n ∧ va_P D ec_cl (ex_w ad ca cs') t.heap) ∧ va_F A st t
abbrev ex_rm (fr lo : Nat) : Room := { frames := fr, cells := 0, slots := 0, locals := lo }
def ex_Met (l : Launch) (y : MethodName) (bytes : ByteArray) (maxL : Nat) (ret : Option FieldType) (fr lo : Nat) (sp : ex_S) : Prop :=
  ∀ (D : va_G) (ad ca : Nat → Nat) (n sz : Nat) (av : ex_V) (cs : ex_C) (Q : ex_Q), sp av cs Q →
    Met l y (.code y bytes maxL ret :: ec_tb) (ex_rm fr lo) (ex_Pc D ad ca av cs n sz) (ex_Qc D ad ca Q n (ex_A ad n sz)) 0 0 (ex_A ad n sz)
theorem ex_blind {D : va_G} {ad ca : Nat → Nat} {av : ex_V} {cs : ex_C} {n sz : Nat} : FrameBlind (ex_Pc D ad ca av cs n sz) := by
  intro a U g mk ⟨h1, h2, h3, h4, h5, h6, h7, h8, h9⟩
  refine ⟨h1, h2, h3, h4, h5, va_K.moved (u := U) (U := U.calling g mk a) (Vm.Alike.refl U.vm) h6, fun j m f hj => ?_, fun C m d j hj => ?_, fun q hq => va_Nw.same (u := U) (U := U.calling g mk a) rfl rfl (h9 q hq)⟩
  · exact va_T.moved (u := U) (U := U.calling g mk a) (Vm.Alike.refl U.vm) (h7 j m f hj)
  · exact va_Z.moved (u := U) (U := U.calling g mk a) (Vm.Alike.refl U.vm) (h8 C m d j hj)
/-! what a method's instructions link: its own name; fields (kind number, slot, may it be written, type); int constants; static arrays; calls (how many values with the receiver, the receiver's kind number, the callee's spec); which call is System.arraycopy (1), Math.min (2), Math.max (3); long constants -/
abbrev ex_K : Type := String × (Nat → Option (Nat × Nat × Bool × FieldType)) × (Nat → Option Int32) × (Nat → Option Nat) × (Nat → Option (Nat × Option Nat × ex_S)) × (Nat → Nat) × (Nat → Option Int64)
def ex_o {α : Type} (o : Option α) (k : α → Prop) : Prop := match o with
  | some a => k a
  | none => False
theorem ex_o.at {α : Type} {o : Option α} {k : α → Prop} (h : ex_o o k) : ∃ a, o = some a ∧ k a := by
  cases o with
  | none => exact h.elim
  | some a => exact ⟨a, rfl, h⟩
def ex_i1 (st : ex_V) (k : Int32 → ex_V → Prop) : Prop := match st with
  | .int x :: r => k x r
  | _ => False
def ex_i2 (st : ex_V) (k : Int32 → Int32 → ex_V → Prop) : Prop := match st with
  | .int y :: .int x :: r => k x y r
  | _ => False
def ex_l1 (st : ex_V) (k : Int64 → ex_V → Prop) : Prop := match st with
  | .long x :: r => k x r
  | _ => False
def ex_l2 (st : ex_V) (k : Int64 → Int64 → ex_V → Prop) : Prop := match st with
  | .long y :: .long x :: r => k x y r
  | _ => False
def ex_r1 (st : ex_V) (k : Nat → ex_V → Prop) : Prop := match st with
  | .ref a :: r => k a r
  | _ => False
def ex_ir (st : ex_V) (k : Int32 → Nat → ex_V → Prop) : Prop := match st with
  | .int i :: .ref a :: r => k i a r
  | _ => False
def ex_iir (st : ex_V) (k : Int32 → Int32 → Nat → ex_V → Prop) : Prop := match st with
  | .int x :: .int i :: .ref a :: r => k x i a r
  | _ => False
def ex_vr (st : ex_V) (k : Value → Nat → ex_V → Prop) : Prop := match st with
  | v :: .ref a :: r => k v a r
  | _ => False
def ex_v1 (st : ex_V) (k : Value → ex_V → Prop) : Prop := match st with
  | v :: r => k v r
  | _ => False
def ex_v2 (st : ex_V) (k : Value → Value → ex_V → Prop) : Prop := match st with
  | v :: w :: r => k v w r
  | _ => False
theorem ex_i1.at {st : ex_V} {k : Int32 → ex_V → Prop} (h : ex_i1 st k) : ∃ x r, st = .int x :: r ∧ k x r := by
  unfold ex_i1 at h
  split at h
  · exact ⟨_, _, rfl, h⟩
  · exact h.elim
theorem ex_i2.at {st : ex_V} {k : Int32 → Int32 → ex_V → Prop} (h : ex_i2 st k) : ∃ x y r, st = .int y :: .int x :: r ∧ k x y r := by
  unfold ex_i2 at h
  split at h
  · exact ⟨_, _, _, rfl, h⟩
  · exact h.elim
theorem ex_l1.at {st : ex_V} {k : Int64 → ex_V → Prop} (h : ex_l1 st k) : ∃ x r, st = .long x :: r ∧ k x r := by
  unfold ex_l1 at h
  split at h
  · exact ⟨_, _, rfl, h⟩
  · exact h.elim
theorem ex_l2.at {st : ex_V} {k : Int64 → Int64 → ex_V → Prop} (h : ex_l2 st k) : ∃ x y r, st = .long y :: .long x :: r ∧ k x y r := by
  unfold ex_l2 at h
  split at h
  · exact ⟨_, _, _, rfl, h⟩
  · exact h.elim
theorem ex_r1.at {st : ex_V} {k : Nat → ex_V → Prop} (h : ex_r1 st k) : ∃ a r, st = .ref a :: r ∧ k a r := by
  unfold ex_r1 at h
  split at h
  · exact ⟨_, _, rfl, h⟩
  · exact h.elim
theorem ex_ir.at {st : ex_V} {k : Int32 → Nat → ex_V → Prop} (h : ex_ir st k) : ∃ i a r, st = .int i :: .ref a :: r ∧ k i a r := by
  unfold ex_ir at h
  split at h
  · exact ⟨_, _, _, rfl, h⟩
  · exact h.elim
theorem ex_iir.at {st : ex_V} {k : Int32 → Int32 → Nat → ex_V → Prop} (h : ex_iir st k) : ∃ x i a r, st = .int x :: .int i :: .ref a :: r ∧ k x i a r := by
  unfold ex_iir at h
  split at h
  · exact ⟨_, _, _, _, rfl, h⟩
  · exact h.elim
theorem ex_vr.at {st : ex_V} {k : Value → Nat → ex_V → Prop} (h : ex_vr st k) : ∃ v a r, st = v :: .ref a :: r ∧ k v a r := by
  unfold ex_vr at h
  split at h
  · exact ⟨_, _, _, rfl, h⟩
  · exact h.elim
theorem ex_v1.at {st : ex_V} {k : Value → ex_V → Prop} (h : ex_v1 st k) : ∃ v r, st = v :: r ∧ k v r := by
  unfold ex_v1 at h
  split at h
  · exact ⟨_, _, rfl, h⟩
  · exact h.elim
theorem ex_v2.at {st : ex_V} {k : Value → Value → ex_V → Prop} (h : ex_v2 st k) : ∃ v w r, st = v :: w :: r ∧ k v w r := by
  unfold ex_v2 at h
  split at h
  · exact ⟨_, _, _, rfl, h⟩
  · exact h.elim
def ex_gi (lv : ex_L) (i : Nat) (k : Int32 → Prop) : Prop := match lv[i]? with
  | some (some (.int x)) => k x
  | _ => False
def ex_gl (lv : ex_L) (i : Nat) (k : Int64 → Prop) : Prop := match lv[i]? with
  | some (some (.long x)) => k x
  | _ => False
def ex_gr (lv : ex_L) (i : Nat) (k : Nat → Prop) : Prop := match lv[i]? with
  | some (some (.ref a)) => k a
  | _ => False
theorem ex_gi.at {lv : ex_L} {i : Nat} {k : Int32 → Prop} (h : ex_gi lv i k) : ∃ x, lv[i]? = some (some (.int x)) ∧ k x := by
  unfold ex_gi at h
  split at h
  · rename_i x e; exact ⟨x, e, h⟩
  · exact h.elim
theorem ex_gl.at {lv : ex_L} {i : Nat} {k : Int64 → Prop} (h : ex_gl lv i k) : ∃ x, lv[i]? = some (some (.long x)) ∧ k x := by
  unfold ex_gl at h
  split at h
  · rename_i x e; exact ⟨x, e, h⟩
  · exact h.elim
theorem ex_gr.at {lv : ex_L} {i : Nat} {k : Nat → Prop} (h : ex_gr lv i k) : ∃ a, lv[i]? = some (some (.ref a)) ∧ k a := by
  unfold ex_gr at h
  split at h
  · rename_i x e; exact ⟨x, e, h⟩
  · exact h.elim
/-- the object at a place -/
def ex_ob (cs : ex_C) (a ci : Nat) (k : List Value → Prop) : Prop := match cs[a]? with
  | some (.inr (c2, fs)) => c2 = ci ∧ k fs
  | _ => False
theorem ex_ob.at {cs : ex_C} {a ci : Nat} {k : List Value → Prop} (h : ex_ob cs a ci k) : ∃ fs, cs[a]? = some (.inr (ci, fs)) ∧ k fs := by
  unfold ex_ob at h
  split at h
  · rename_i c2 fs e
    obtain ⟨rfl, h⟩ := h
    exact ⟨fs, e, h⟩
  · exact h.elim
/-- the array of tag t at a place -/
def ex_ar (cs : ex_C) (a t : Nat) (k : Nat → (Nat → Int32) → Prop) : Prop := match cs[a]? with
  | some (.inl (t2, n, .inl f)) => t2 = t ∧ k n f
  | _ => False
theorem ex_ar.at {cs : ex_C} {a t : Nat} {k : Nat → (Nat → Int32) → Prop} (h : ex_ar cs a t k) : ∃ n f, cs[a]? = some (.inl (t, n, .inl f)) ∧ k n f := by
  unfold ex_ar at h
  split at h
  · rename_i t2 n f e
    obtain ⟨rfl, h⟩ := h
    exact ⟨n, f, e, h⟩
  · exact h.elim
/-- an array of ints at a place, or a static one -/
def ex_ax (xt : ex_xt) (cs : ex_C) (a : Nat) (k : Nat → (Nat → Int32) → Prop) : Prop := if 1000 ≤ a then ex_o xt[a - 1000]? (fun q => k q.1 q.2) else ex_ar cs a 0 k
/-- may a value be stored in a field of this type -/
def ex_fit (ty : FieldType) (v : Value) : Prop := match ty, v with
  | .int, .int _ => True
  | .long, .long _ => True
  | .boolean, .int x => x = 0 ∨ x = 1
  | .object _, .ref _ => True
  | .array _, .ref _ => True
  | _, _ => False
theorem ex_fit.ok {ad : Nat → Nat} {ty : FieldType} {v : Value} (h : ex_fit ty v) : narrow ty (ex_v ad v) = ex_v ad v ∧ fits ty (ex_v ad v) = true := by
  unfold ex_fit at h
  split at h
  · exact ⟨rfl, rfl⟩
  · exact ⟨rfl, rfl⟩
  · rcases h with rfl | rfl
    · exact ⟨(by decide : narrow .boolean (.int 0) = .int 0), (by decide : fits .boolean (.int 0) = true)⟩
    · exact ⟨(by decide : narrow .boolean (.int 1) = .int 1), (by decide : fits .boolean (.int 1) = true)⟩
  · exact ⟨rfl, rfl⟩
  · exact ⟨rfl, rfl⟩
  · exact h.elim
def ex_ret (ret : Option FieldType) (v : Int32) : Prop := match ret with
  | some .int => True
  | some .boolean => v = 0 ∨ v = 1
  | _ => False
/-- a jump -/
def ex_to (pc : Nat) (off : Int) (k : Nat → Prop) : Prop := 0 ≤ (pc : Int) + off ∧ k ((pc : Int) + off).toNat
theorem ex_to.at {pc : Nat} {off : Int} {k : Nat → Prop} (h : ex_to pc off k) : ∃ t : Nat, (pc : Int) + off = (t : Int) ∧ k t := ⟨_, (Int.toNat_of_nonneg h.1).symm, h.2⟩
def ex_tb (x : Int32) (k : Int → Prop) : Int → List Int → Prop
  | _, [] => True
  | lo, o :: r => (x = Int32.ofInt lo → k o) ∧ ex_tb x k (lo + 1) r
def ex_lk (x : Int32) (k : Int → Prop) : List (Int × Int) → Prop
  | [] => True
  | q :: r => (x = Int32.ofInt q.1 → k q.2) ∧ ex_lk x k r
def ex_ln (x : Int32) : List (Int × Int) → Prop
  | [] => True
  | q :: r => ¬ x = Int32.ofInt q.1 ∧ ex_ln x r
def ex_b (A B C : Prop) : Prop := (A → B) ∧ (¬ A → C)

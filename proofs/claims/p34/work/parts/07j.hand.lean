/-! LOOPS BY HAND: the walk goes to a loop's head, what stands there is proved by hand, and it goes on behind it -/
abbrev ab_O : Type := Nat × ab_L × ab_F
def ab_lx (a : Option ab_V) (t : Option ab_V) : Bool := match t, a with
  | none, some (.inr (.inr _)) => false
  | none, _ => true
  | some (.inl k), some (.inl k') => decide (k' = k)
  | some (.inr (.inl x)), some (.inr (.inl y)) => decide (x.1 ≤ y.1 ∧ y.2.1 ≤ x.2.1) && (x.2.2.1.isNone && (x.2.2.2.isNone || decide (y.2.2.2 = x.2.2.2)))
  | _, _ => false
def ab_lxe : ab_L → ab_L → Bool
  | [], [] => true
  | a :: r, t :: s => ab_lx a t && ab_lxe r s
  | _, _ => false
theorem ab_lxek : ∀ {al ql : ab_L}, ab_lxe al ql = true → al.length = ql.length ∧ ∀ (i : Nat) t, ql[i]? = some t → ∃ a, al[i]? = some a ∧ ab_lx a t = true
  | [], [], _ => ⟨rfl, fun i t h => by simp at h⟩
  | a :: r, t :: s, h => by
    obtain ⟨h1, h2⟩ := ab_b h
    obtain ⟨g1, g2⟩ := ab_lxek h2
    refine ⟨by simp [g1], fun i t' ht => ?_⟩
    cases i with
    | zero =>
      simp at ht
      subst ht
      exact ⟨a, rfl, h1⟩
    | succ i =>
      simp at ht
      obtain ⟨b, hb, hc⟩ := g2 i t' ht
      exact ⟨b, by simpa using hb, hc⟩
  | [], _ :: _, h => by cases h
  | _ :: _, [], h => by cases h
theorem ab_lxk {o : Nat → Int} {a t : Option ab_V} {v : Option Value} (h : ab_lx a t = true) (g : ab_c1 o a v) : ab_c1 o t v := by
  unfold ab_lx at h
  split at h
  · cases h
  · rename_i hne
    show ∀ w, v = some w → w.category = 1
    intro w hw
    unfold ab_c1 at g
    split at g
    · exact g w hw
    · rw [g] at hw; cases hw; rfl
    · obtain ⟨x, e, -⟩ := g; rw [e] at hw; cases hw; rfl
    · rename_i l; exact absurd rfl (hne l)
  · have := of_decide_eq_true h
    subst this
    exact g
  · rename_i x y
    obtain ⟨h1, h2⟩ := ab_b h
    obtain ⟨h3, h4⟩ := ab_b h2
    have h5 := of_decide_eq_true h1
    obtain ⟨z, e, h6, h7⟩ := g
    refine ⟨z, e, ⟨by omega, by omega⟩, fun q hq => ?_⟩
    rcases (Bool.or_eq_true _ _).mp h4 with h4 | h4
    · rw [hq] at h4
      cases h4
    · have h8 : y.2.2.2 = x.2.2.2 := of_decide_eq_true h4
      exact h7 q (by rw [h8]; exact hq)
  · cases h
theorem ab_lxc {o : Nat → Int} {al ql : ab_L} {lv : ex_L} (h : ab_lxe al ql = true) (g : ab_cl o al lv) : ab_cl o ql lv := by
  obtain ⟨h1, h2⟩ := ab_lxek h
  refine ⟨by rw [← h1]; exact g.1, fun i t ht => ?_⟩
  obtain ⟨b, hb, hc⟩ := h2 i t ht
  obtain ⟨v, hv, g2⟩ := g.2 i b hb
  exact ⟨v, hv, ab_lxk hc g2⟩
def ab_Jo (es : List ab_O) (ds : List Nat) (pc : Nat) : Option (ab_L → List ab_V → ab_F → Bool) := match es.find? (fun q => q.1 == pc) with
  | some q => some (fun al as fc => as.isEmpty && (ab_lxe al q.2.1 && q.2.2.all (ab_im fc)))
  | none => if ds.contains pc = true then some (fun _ _ _ => false) else none
def ab_cko (hd : List ab_H) (xs : List (Nat × Int × Int × List Int)) (tr sp : List (Nat × Nat)) (cx : ex_K) (cm : Nat → Option (Nat × Option Nat × List ab_C)) (code : List (Nat × Instr × Nat)) (ret : Option FieldType) (maxL fuel : Nat) (c : ab_C) (es xo : List ab_O) (ds : List Nat) : Bool :=
  decide (c.1.length ≤ maxL) && (ab_wp hd xs sp cx cm code ret c.2.2.1 (ab_E true c) (ab_Jo es ds) fuel 0 (ab_al0 c.1 maxL) [] (c.2.1 ++ ab_tf hd tr) && xo.all (fun q => ab_wp hd xs sp cx cm code ret c.2.2.1 (ab_E true c) (ab_Jo [] ds) fuel q.1 q.2.1 [] q.2.2))
/-- behind the loops: rank 0 -/
def ab_Ie (hd : List ab_H) (W : ab_W) (o : Nat → Int) (cs0 : ex_C) (xo : List ab_O) (Ih : Nat → Option (Nat → ex_L → ex_V → ex_C → Prop)) (pc : Nat) : Option (Nat → ex_L → ex_V → ex_C → Prop) := match xo.find? (fun q => q.1 == pc) with
  | some q => some (fun n lv st cs => n = 0 ∧ ab_G hd W o cs0 q.2.1 [] q.2.2 lv st cs)
  | none => Ih pc
set_option maxHeartbeats 4000000 in
theorem ab_slo {hd : List ab_H} {xs : List (Nat × Int × Int × List Int)} {tr sp : List (Nat × Nat)} {cx : ex_K} {cm : Nat → Option (Nat × Option Nat × List ab_C)} {code : List (Nat × Instr × Nat)} {cc : ByteArray} {ret : Option FieldType} {maxL fuel : Nat} {c : ab_C} {es xo : List ab_O} {ds : List Nat} (hm0 : maxL ≤ 1000) (hcode : ∀ q ∈ code, decode cc q.1 = .ok q.2) (hcm : ∀ ix q, cm ix = some q → cx.2.2.2.2.1 ix = some (q.1, q.2.1, ab_sp hd q.2.2)) (hxs : ab_xo xs ec_xt) (hck : ab_cko hd xs tr sp cx cm code ret maxL fuel c es xo ds = true) {av : ex_V} {cs : ex_C} {Q : ex_Q} (hp : ab_pre c av cs) (hh : ab_hk hd cs) (hQ : ∀ r cs', ab_post hd c av cs r cs' → Q r cs')
    (Ih : Nat → Option (Nat → ex_L → ex_V → ex_C → Prop))
    (hdom : ∀ pc, ds.contains pc = (ab_Ie hd c.2.2.1 (ab_oo (av.map some) cs) cs xo Ih pc).isSome)
    (hes : ∀ q ∈ es, ds.contains q.1 = true ∧ xo.find? (fun p => p.1 == q.1) = none)
    (hent : ∀ q ∈ es, ∀ lv cs', ab_G hd c.2.2.1 (ab_oo (av.map some) cs) cs q.2.1 [] q.2.2 lv [] cs' → ∃ J n, Ih q.1 = some J ∧ J n lv [] cs')
    (hst : ∀ pc J n lv st cs', Ih pc = some J → J n lv st cs' → ex_wp ec_xt cx cc ret (fun pc' => (ab_Ie hd c.2.2.1 (ab_oo (av.map some) cs) cs xo Ih pc').map (fun J' lv st cs => ∃ n', n' < n ∧ J' n' lv st cs)) Q fuel pc lv st cs') : ex_sl cx cc maxL ret av cs Q := by
  obtain ⟨hp1, hp2, hp3⟩ := hp
  obtain ⟨k1, k2⟩ := ab_a hck
  obtain ⟨k3, k4⟩ := ab_b k2
  have hts : c.1.length ≤ 1000 := by omega
  have hEn : ∀ r al fc lv cs' v, ab_E true c r al fc = true → ab_cl (ab_oo (av.map some) cs) al lv → ab_cf (ab_oo (av.map some) cs) lv cs' fc → ab_hk hd cs' → ab_fr c.2.2.1 cs cs' → (match r with
      | none => v = none
      | some a => ∃ x : Int32, v = some (.int x) ∧ (a.1 ≤ x.toInt ∧ x.toInt ≤ a.2.1) ∧ ∀ d, a.2.2.2 = some d → x.toInt = ab_oo (av.map some) cs d.1 + d.2) → Q v cs' := by
    intro r al fc lv cs' v hE hl hf hk hfr hv
    obtain ⟨s, hs, h1⟩ := List.any_eq_true.mp hE
    obtain ⟨h2, h3⟩ := ab_b h1
    obtain ⟨h3, h6⟩ := ab_b h3
    exact hQ _ _ ⟨hk, hfr, s, hs, ab_erk hv (fun _ _ => rfl) h2, fun q hq => ab_pfk hts hp2 (List.all_eq_true.mp h3 q hq) (fun _ _ => rfl) hl hf, fun q hq => ab_pck (List.all_eq_true.mp h6 q hq) (fun _ _ => rfl) hf⟩
  have dom : ∀ (pc : Nat) (m : (Nat → ex_L → ex_V → ex_C → Prop) → ex_L → ex_V → ex_C → Prop), ((if ds.contains pc = true then some (fun (_ : ab_L) (_ : List ab_V) (_ : ab_F) => false) else none) = none → (ab_Ie hd c.2.2.1 (ab_oo (av.map some) cs) cs xo Ih pc).map m = none) ∧ ∀ ch, (if ds.contains pc = true then some (fun (_ : ab_L) (_ : List ab_V) (_ : ab_F) => false) else none) = some ch → ∃ P, (ab_Ie hd c.2.2.1 (ab_oo (av.map some) cs) cs xo Ih pc).map m = some P ∧ ∀ al as fc lv st cs', ch al as fc = true → ab_G hd c.2.2.1 (ab_oo (av.map some) cs) cs al as fc lv st cs' → P lv st cs' := by
    intro pc m
    have hd1 := hdom pc
    cases hI : ab_Ie hd c.2.2.1 (ab_oo (av.map some) cs) cs xo Ih pc with
    | none =>
      rw [hI] at hd1
      have hd2 : ds.contains pc = false := hd1
      rw [hd2]
      exact ⟨fun _ => rfl, fun ch h => (by cases h)⟩
    | some J =>
      rw [hI] at hd1
      have hd2 : ds.contains pc = true := hd1
      rw [hd2]
      refine ⟨fun h => (by cases h), fun ch h => ?_⟩
      cases h
      exact ⟨_, rfl, fun _ _ _ _ _ _ h => (by cases h)⟩
  refine ⟨?_, by rw [hp1]; exact k1, fuel, ab_Ie hd c.2.2.1 (ab_oo (av.map some) cs) cs xo Ih, ?_, ?_⟩
  · rw [List.all_eq_true]
    intro w hw
    obtain ⟨i, hi, e⟩ := List.getElem_of_mem hw
    obtain ⟨v, hv, hc⟩ := hp2 i (c.1[i]'(by omega)) (List.getElem?_eq_getElem _)
    rw [List.getElem?_eq_getElem hi, e] at hv
    cases hv
    unfold ab_ct at hc
    split at hc
    · subst hc; rfl
    · obtain ⟨x, rfl, -⟩ := hc; rfl
  · refine ab_wp_sound ab_oolw ab_ooln ab_oog (o := ab_oo (av.map some) cs) (cs0 := cs) hcode hcm hxs hEn (fun pc => ?_) _ _ _ _ _ _ _ _ k3 ⟨ab_al0k hts hp1 hp2, rfl, fun q hq => ?_, hh, ab_rf0⟩
    · have hd1 := hdom pc
      unfold ab_Jo
      cases hf : es.find? (fun q => q.1 == pc) with
      | none =>
        dsimp only
        exact dom pc _
      | some q =>
        refine ⟨fun h => (by cases h), fun ch h => ?_⟩
        cases h
        have hqm := List.mem_of_find?_eq_some hf
        have hpp : q.1 = pc := by simpa using List.find?_some hf
        have h2 : (ab_Ie hd c.2.2.1 (ab_oo (av.map some) cs) cs xo Ih pc).isSome = true := by
          rw [← hd1, ← hpp]
          exact (hes q hqm).1
        obtain ⟨J, hJ⟩ := Option.isSome_iff_exists.mp h2
        rw [hJ]
        refine ⟨_, rfl, fun al as fc lv st cs' h g => ?_⟩
        obtain ⟨h3, h4⟩ := ab_b h
        obtain ⟨h5, h6⟩ := ab_b h4
        have hn : as = [] := by simpa using h3
        subst hn
        have hst0 : st = [] := g.2.1
        subst hst0
        obtain ⟨J', n, hJ', hn⟩ := hent q hqm lv cs' ⟨ab_lxc h5 g.1, rfl, fun f hf => ab_imk (List.all_eq_true.mp h6 f hf) g.2.2.1, g.2.2.2⟩
        have h8 := (hes q hqm).2
        rw [hpp] at h8 hJ'
        unfold ab_Ie at hJ
        rw [h8] at hJ
        dsimp only at hJ
        rw [hJ'] at hJ
        cases hJ
        exact ⟨n, hn⟩
    · rcases List.mem_append.mp hq with hq | hq
      · obtain ⟨x, hx, hb⟩ := hp3 q hq
        exact ⟨x, by rw [ab_l0kv]; exact hx, hb⟩
      · have := ab_tfk (lv := ex_l0 av maxL) hh tr q hq
        rw [ab_l0oo] at this
        exact this
  · intro pc J n lv st cs1 hJ hP
    cases hx : xo.find? (fun q => q.1 == pc) with
    | none =>
      unfold ab_Ie at hJ
      rw [hx] at hJ
      exact hst pc J n lv st cs1 hJ hP
    | some q =>
      have hJ2 := hJ
      unfold ab_Ie at hJ2
      rw [hx] at hJ2
      cases hJ2
      obtain ⟨-, hg⟩ := hP
      have hqm := List.mem_of_find?_eq_some hx
      have hpp : q.1 = pc := by simpa using List.find?_some hx
      have hst0 : st = [] := hg.2.1
      subst hst0
      have k5 := List.all_eq_true.mp k4 q hqm
      rw [hpp] at k5
      refine ab_wp_sound ab_oolw ab_ooln ab_oog (o := ab_oo (av.map some) cs) (cs0 := cs) hcode hcm hxs hEn (fun pc' => ?_) _ _ _ _ _ _ _ _ k5 hg
      unfold ab_Jo
      exact dom pc' _
theorem ab_cl0 {o : Nat → Int} : ab_cl o [] [] := ⟨rfl, fun i a h => by simp at h⟩
theorem ab_cl1 {o : Nat → Int} {a : Option ab_V} {v : Option Value} {al : ab_L} {lv : ex_L} (h : ab_c1 o a v) (g : ab_cl o al lv) : ab_cl o (a :: al) (v :: lv) := by
  refine ⟨by simp [g.1], fun i b hb => ?_⟩
  cases i with
  | zero =>
    simp at hb
    subst hb
    exact ⟨v, rfl, h⟩
  | succ i =>
    simp at hb
    obtain ⟨w, hw, hc⟩ := g.2 i b hb
    exact ⟨w, by simpa using hw, hc⟩
theorem ab_clu {o : Nat → Int} {a : Option ab_V} {al : ab_L} {lv : ex_L} (g : ab_cl o (a :: al) lv) : ∃ v lv', lv = v :: lv' ∧ ab_c1 o a v ∧ ab_cl o al lv' := by
  match lv, g with
  | [], g => exact absurd g.1 (by simp)
  | v :: lv', g =>
    obtain ⟨w, hw, hc⟩ := g.2 0 a rfl
    simp at hw
    subst hw
    exact ⟨v, lv', rfl, hc, by have := g.1; simpa using this, fun i b hb => g.2 (i + 1) b (by simpa using hb)⟩
theorem ab_cln {o : Nat → Int} {lv : ex_L} (g : ab_cl o [] lv) : lv = [] := by
  have := g.1
  exact List.eq_nil_of_length_eq_zero this.symm
theorem ab_c1t {o : Nat → Int} {lo hi : Int} {d : Nat × Int} {x : Int32} (h1 : lo ≤ x.toInt) (h2 : x.toInt ≤ hi) (h3 : x.toInt = o d.1 + d.2) : ab_c1 o (some (.inr (.inl (lo, hi, none, some d)))) (some (.int x)) := ⟨x, rfl, ⟨h1, h2⟩, fun q hq => (by cases hq; exact h3)⟩
theorem ab_c1n {o : Nat → Int} {x : Int32} : ab_c1 o none (some (.int x)) := fun w hw => (by cases hw; rfl)
theorem ab_cfg {o : Nat → Int} {lv : ex_L} {cs : ex_C} {i : Nat} {lo hi : Int} (h1 : lo ≤ o i) (h2 : o i ≤ hi) : ab_cf o lv cs [((8, i, 0), lo, hi, none)] := by
  intro q hq
  rcases List.mem_singleton.mp hq with rfl
  exact ⟨o i, rfl, h1, h2, fun _ h => (by cases h)⟩
theorem ab_cfn {o : Nat → Int} {lv : ex_L} {cs : ex_C} : ab_cf o lv cs [] := fun q hq => (by cases hq)

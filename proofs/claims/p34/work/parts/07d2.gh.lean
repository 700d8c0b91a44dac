/-! cells -/
def gi (cs : ex_C) (k j : Nat) : Int32 := match ab_rd cs k j with
  | some (.int x) => x
  | _ => 0
theorem gi_c {cs cs' : ex_C} {k : Nat} (h : ∀ j, ab_rd cs k j = ab_rd cs' k j) : gi cs k = gi cs' k := by
  funext j
  unfold gi
  rw [h j]
theorem gi_a {cs : ex_C} {k n t : Nat} {f : Nat → Int32} (h : cs[k]? = some (.inl (t, n, .inl f))) : gi cs k = f := by
  funext j
  unfold gi ab_rd
  rw [h]
theorem gi_o {cs : ex_C} {k j ci : Nat} {fs : List Value} {x : Int32} (h : cs[k]? = some (.inr (ci, fs))) (hj : fs[j]? = some (.int x)) : gi cs k j = x := by
  unfold gi ab_rd
  rw [h]
  simp only [hj]
theorem gi_r {cs cs' : ex_C} {k j k' j' : Nat} {z : Int} (h : ab_ri cs k j = some z) (h' : ab_ri cs' k' j' = some z) : gi cs k j = gi cs' k' j' := by
  unfold ab_ri at h h'
  unfold gi
  split at h
  · rename_i x hx
    split at h'
    · rename_i y hy
      rw [hx, hy]
      cases h
      have : y.toInt = x.toInt := Option.some.inj h'
      exact (Int32.toInt_inj.mp this).symm
    · cases h'
  · cases h
theorem gi_t {cs : ex_C} {k j : Nat} {z : Int} (h : ab_ri cs k j = some z) : (gi cs k j).toInt = z := by
  unfold ab_ri at h
  unfold gi
  split at h
  · rename_i x hx
    rw [hx]
    exact Option.some.inj h
  · cases h
theorem gi_e {cs cs' : ex_C} {k j k' j' : Nat} (h : ab_ri cs k j = ab_ri cs' k' j') : gi cs k j = gi cs' k' j' := by
  unfold ab_ri at h
  unfold gi
  generalize ab_rd cs k j = u at h ⊢
  generalize ab_rd cs' k' j' = v at h ⊢
  cases u with
  | none => cases v with
    | none => rfl
    | some w => cases w <;> first | rfl | (cases h)
  | some w => cases v with
    | none => cases w <;> first | rfl | (cases h)
    | some w' => cases w <;> cases w' <;> first | rfl | (exact Int32.toInt_inj.mp (Option.some.inj h)) | (cases h)
/-! parts: modules that hang together -/
def pb (x i : Int32) : Int32 := (x >>> (i &&& 31)) &&& 1
def hm (x : Int32) (i : Nat) : Bool := x.toBitVec.getLsbD i
def pk (x : Int32) : Prop := 0 ≤ x.toInt ∧ x.toInt ≤ 63
theorem pk_nat {x : Int32} (h : pk x) : ∃ i : Fin 64, x = Int32.ofNat i.val := by
  obtain ⟨h1, h2⟩ := h
  refine ⟨⟨x.toInt.toNat, by omega⟩, Int32.toInt_inj.mp ?_⟩
  rw [Int32.toInt_ofNat_of_lt (by show x.toInt.toNat < _; omega)]
  show x.toInt = (x.toInt.toNat : Int)
  omega
theorem pn_nat {x : Int32} (h1 : 0 ≤ x.toInt) (h2 : x.toInt ≤ 63) : x = Int32.ofNat x.toNatClampNeg := by
  refine Int32.toInt_inj.mp ?_
  have e : x.toNatClampNeg = x.toInt.toNat := rfl
  rw [Int32.toInt_ofNat_of_lt (by rw [e]; omega), e]
  omega
theorem hm_or {x y : Int32} {i : Nat} : hm (x ||| y) i = (hm x i || hm y i) := by
  unfold hm
  rw [Int32.toBitVec_or, BitVec.getLsbD_or]
theorem pk_or0 : ∀ i j : Fin 64, (Int32.ofNat i.val).toInt ≤ (Int32.ofNat i.val ||| Int32.ofNat j.val).toInt ∧ (Int32.ofNat i.val ||| Int32.ofNat j.val).toInt ≤ 63 := by decide +kernel
theorem pk_or {x y : Int32} (h1 : pk x) (h2 : pk y) : pk (x ||| y) ∧ x.toInt ≤ (x ||| y).toInt := by
  have hx := h1.1
  obtain ⟨i, rfl⟩ := pk_nat h1
  obtain ⟨j, rfl⟩ := pk_nat h2
  have := pk_or0 i j
  exact ⟨⟨by omega, this.2⟩, this.1⟩
theorem hm_sh0 : ∀ j i : Fin 6, hm ((1 : Int32) <<< (Int32.ofNat j.val &&& 31)) i.val = decide (i = j) ∧ 0 < ((1 : Int32) <<< (Int32.ofNat j.val &&& 31)).toInt ∧ ((1 : Int32) <<< (Int32.ofNat j.val &&& 31)).toInt ≤ 63 := by decide +kernel
theorem hm_sh {j i : Nat} (h1 : j < 6) (h2 : i < 6) : hm ((1 : Int32) <<< (Int32.ofNat j &&& 31)) i = true ↔ i = j := by
  have := (hm_sh0 ⟨j, h1⟩ ⟨i, h2⟩).1
  dsimp only at this
  rw [this]
  simp
theorem pk_sh {j : Nat} (h1 : j < 6) : pk ((1 : Int32) <<< (Int32.ofNat j &&& 31)) ∧ 0 < ((1 : Int32) <<< (Int32.ofNat j &&& 31)).toInt := by
  have := (hm_sh0 ⟨j, h1⟩ ⟨0, by omega⟩).2
  dsimp only at this
  exact ⟨⟨by omega, this.2⟩, this.1⟩
theorem hm_ext0 : ∀ x y : Fin 64, (∀ i : Fin 6, hm (Int32.ofNat x.val) i.val = hm (Int32.ofNat y.val) i.val) → x = y := by decide +kernel
theorem hm_ext {x y : Int32} (h1 : pk x) (h2 : pk y) (h : ∀ i, i < 6 → (hm x i = true ↔ hm y i = true)) : x = y := by
  obtain ⟨i, rfl⟩ := pk_nat h1
  obtain ⟨j, rfl⟩ := pk_nat h2
  rw [hm_ext0 i j (fun k => by
    have := h k.val k.isLt
    exact Bool.eq_iff_iff.mpr this)]
theorem pb_hm0 : ∀ x : Fin 64, ∀ i : Fin 6, (pb (Int32.ofNat x.val) (Int32.ofNat i.val) = 1 ↔ hm (Int32.ofNat x.val) i.val = true) := by decide +kernel
theorem pb_hm {x : Int32} {i : Nat} (h : pk x) (hi : i < 6) : pb x (Int32.ofNat i) = 1 ↔ hm x i = true := by
  obtain ⟨j, rfl⟩ := pk_nat h
  exact pb_hm0 j ⟨i, hi⟩
theorem pb_hi {x e : Int32} (h : pk x) (h1 : 0 ≤ e.toInt) (h2 : e.toInt ≤ 5) : pb x e = 1 ↔ hm x e.toNatClampNeg = true := by
  have e0 : e.toNatClampNeg = e.toInt.toNat := rfl
  have := pb_hm (i := e.toNatClampNeg) h (by omega)
  rw [← pn_nat h1 (by omega)] at this
  exact this
def pt_0 (P : Nat → Int32) (n j : Nat) : Int32 := if j < n then 1 <<< (Int32.ofNat j &&& 31) else P j
def pt_j (t : Int32) (P : Nat → Int32) (n j : Nat) : Int32 := if j < n ∧ pb t (Int32.ofNat j) = 1 then t else P j
def pt_h (M : Nat) (c : Int32) (a b P : Nat → Int32) : Nat → Nat → Int32
  | 0 => pt_0 P M
  | n + 1 => if pb c (Int32.ofNat n) = 0 then pt_j (pt_h M c a b P n (a n).toNatClampNeg ||| pt_h M c a b P n (b n).toNatClampNeg) (pt_h M c a b P n) M else pt_h M c a b P n
def pt_cl (H : Nat) (c : Int32) (a b : Nat → Int32) (T : Nat → Prop) : Prop := ∀ k, k < H → pb c (Int32.ofNat k) = 0 → (T (a k).toNatClampNeg ↔ T (b k).toNatClampNeg)
abbrev pt_I (M H n : Nat) (c : Int32) (a b P : Nat → Int32) : Prop := (∀ j, j < M → pk (P j)) ∧ (∀ j, j < M → hm (P j) j = true) ∧ (∀ j x, j < M → x < 6 → hm (P j) x = true → x < M ∧ P x = P j) ∧ (∀ k, k < n → pb c (Int32.ofNat k) = 0 → P (a k).toNatClampNeg = P (b k).toNatClampNeg) ∧ (∀ T, pt_cl H c a b T → ∀ j x, j < M → x < 6 → T j → hm (P j) x = true → T x)
theorem pt_I.ok {M H n : Nat} {c : Int32} {a b P : Nat → Int32} (h : pt_I M H n c a b P) : ∀ j, j < M → pk (P j) := h.1
theorem pt_I.i1 {M H n : Nat} {c : Int32} {a b P : Nat → Int32} (h : pt_I M H n c a b P) : ∀ j, j < M → hm (P j) j = true := h.2.1
theorem pt_I.i2 {M H n : Nat} {c : Int32} {a b P : Nat → Int32} (h : pt_I M H n c a b P) : ∀ j x, j < M → x < 6 → hm (P j) x = true → x < M ∧ P x = P j := h.2.2.1
theorem pt_I.i3 {M H n : Nat} {c : Int32} {a b P : Nat → Int32} (h : pt_I M H n c a b P) : ∀ k, k < n → pb c (Int32.ofNat k) = 0 → P (a k).toNatClampNeg = P (b k).toNatClampNeg := h.2.2.2.1
theorem pt_I.i4 {M H n : Nat} {c : Int32} {a b P : Nat → Int32} (h : pt_I M H n c a b P) : ∀ T, pt_cl H c a b T → ∀ j x, j < M → x < 6 → T j → hm (P j) x = true → T x := h.2.2.2.2
theorem pt_i0 {M H : Nat} {c : Int32} {a b P : Nat → Int32} (hM : M ≤ 6) : pt_I M H 0 c a b (pt_0 P M) := by
  have e : ∀ j, j < M → pt_0 P M j = 1 <<< (Int32.ofNat j &&& 31) := fun j hj => by
    unfold pt_0
    rw [if_pos hj]
  refine ⟨fun j hj => ?_, fun j hj => ?_, fun j x hj hx h => ?_, fun k hk => (by omega), fun T _ j x hj hx hT h => ?_⟩
  · rw [e j hj]
    exact (pk_sh (by omega)).1
  · rw [e j hj]
    exact (hm_sh (by omega) (by omega)).2 rfl
  · rw [e j hj] at h
    have := (hm_sh (by omega) hx).1 h
    subst this
    exact ⟨hj, rfl⟩
  · rw [e j hj] at h
    have := (hm_sh (by omega) hx).1 h
    subst this
    exact hT
theorem pt_is {M H n : Nat} {c : Int32} {a b P : Nat → Int32} (hM : M ≤ 6) (hn : n < H) (ha : (a n).toNatClampNeg < M) (hb : (b n).toNatClampNeg < M) (hab : ∀ k, k < n → (a k).toNatClampNeg < M ∧ (b k).toNatClampNeg < M) (ho : pb c (Int32.ofNat n) = 0) (h : pt_I M H n c a b P) : pt_I M H (n + 1) c a b (pt_j (P (a n).toNatClampNeg ||| P (b n).toNatClampNeg) P M) := by
  generalize hA : (a n).toNatClampNeg = A at *
  generalize hB : (b n).toNatClampNeg = B at *
  have oa := h.ok A ha
  have ob := h.ok B hb
  have ot := (pk_or oa ob).1
  generalize ht : (P A ||| P B) = t at *
  have hmt : ∀ x, hm t x = true ↔ (hm (P A) x = true ∨ hm (P B) x = true) := fun x => by
    rw [← ht, hm_or, Bool.or_eq_true]
  have e1 : ∀ j, j < M → hm t j = true → pt_j t P M j = t := fun j hj hx => by
    unfold pt_j
    rw [if_pos ⟨hj, (pb_hm ot (by omega)).2 hx⟩]
  have e2 : ∀ j, j < M → ¬ hm t j = true → pt_j t P M j = P j := fun j hj hx => by
    unfold pt_j
    rw [if_neg (fun q => hx ((pb_hm ot (by omega)).1 q.2))]
  -- who is in t: its set is P A or P B
  have w : ∀ x, x < 6 → hm t x = true → x < M ∧ (P x = P A ∨ P x = P B) := fun x hx hh => by
    rcases (hmt x).1 hh with q | q
    · have := h.i2 A x ha hx q
      exact ⟨this.1, Or.inl this.2⟩
    · have := h.i2 B x hb hx q
      exact ⟨this.1, Or.inr this.2⟩
  have w' : ∀ x y, x < M → y < M → P x = P y → hm t x = true → hm t y = true := fun x y hx hy he hh => by
    have y1 := h.i1 y hy
    rw [← he] at y1
    rcases (w x (by omega) hh).2 with q | q
    · rw [q] at y1
      exact (hmt y).2 (Or.inl y1)
    · rw [q] at y1
      exact (hmt y).2 (Or.inr y1)
  refine ⟨fun j hj => ?_, fun j hj => ?_, fun j x hj hx hh => ?_, fun k hk hc => ?_, fun T hT j x hj hx hTj hh => ?_⟩
  · by_cases q : hm t j = true
    · rw [e1 j hj q]
      exact ot
    · rw [e2 j hj q]
      exact h.ok j hj
  · by_cases q : hm t j = true
    · rw [e1 j hj q]
      exact q
    · rw [e2 j hj q]
      exact h.i1 j hj
  · by_cases q : hm t j = true
    · rw [e1 j hj q] at hh ⊢
      have := w x hx hh
      exact ⟨this.1, e1 x this.1 hh⟩
    · rw [e2 j hj q] at hh ⊢
      obtain ⟨x1, x2⟩ := h.i2 j x hj hx hh
      refine ⟨x1, ?_⟩
      rw [e2 x x1 (fun z => q (w' x j x1 hj x2 z))]
      exact x2
  · by_cases q : k = n
    · subst q
      rw [hA, hB, e1 A ha ((hmt A).2 (Or.inl (h.i1 A ha))), e1 B hb ((hmt B).2 (Or.inr (h.i1 B hb)))]
    · have hkn : k < n := by omega
      obtain ⟨k1, k2⟩ := hab k hkn
      have e := h.i3 k hkn hc
      by_cases z : hm t (a k).toNatClampNeg = true
      · rw [e1 _ k1 z, e1 _ k2 (w' _ _ k1 k2 e z)]
      · rw [e2 _ k1 z, e2 _ k2 (fun z' => z (w' _ _ k2 k1 e.symm z'))]
        exact e
  · by_cases q : hm t j = true
    · rw [e1 j hj q] at hh
      have tab : T A ↔ T B := by
        have := hT n hn ho
        rw [hA, hB] at this
        exact this
      have tA : T A := by
        rcases (w j (by omega) q).2 with z | z
        · have y1 := h.i1 A ha
          rw [← z] at y1
          exact h.i4 T hT j A hj (by omega) hTj y1
        · have y1 := h.i1 B hb
          rw [← z] at y1
          exact tab.2 (h.i4 T hT j B hj (by omega) hTj y1)
      rcases (hmt x).1 hh with z | z
      · exact h.i4 T hT A x ha hx tA z
      · exact h.i4 T hT B x hb hx (tab.1 tA) z
    · rw [e2 j hj q] at hh
      exact h.i4 T hT j x hj hx hTj hh
theorem pt_ih {M H : Nat} {c : Int32} {a b P : Nat → Int32} (hM : M ≤ 6) (hab : ∀ k, k < H → (a k).toNatClampNeg < M ∧ (b k).toNatClampNeg < M) : ∀ n, n ≤ H → pt_I M H n c a b (pt_h M c a b P n)
  | 0, _ => pt_i0 hM
  | n + 1, hn => by
    have ih := pt_ih (c := c) (P := P) hM hab n (by omega)
    show pt_I M H (n + 1) c a b (if pb c (Int32.ofNat n) = 0 then _ else _)
    by_cases q : pb c (Int32.ofNat n) = 0
    · rw [if_pos q]
      exact pt_is hM (by omega) (hab n (by omega)).1 (hab n (by omega)).2 (fun k hk => hab k (by omega)) q ih
    · rw [if_neg q]
      exact ⟨ih.ok, ih.i1, ih.i2, fun k hk hc => by
        by_cases e : k = n
        · subst e
          exact absurd hc q
        · exact ih.i3 k (by omega) hc, ih.i4⟩
/-- the reference's way: over and over, till nothing comes -/
def pw_1 (c : Int32) (f g : Nat → Int32) (n : Nat) (s : Int32) : Int32 := if pb c (Int32.ofNat n) = 0 ∧ (pb s (f n) = 1 ∨ pb s (g n) = 1) then s ||| ((1 <<< (f n &&& 31)) ||| (1 <<< (g n &&& 31))) else s
def pw_p (c : Int32) (f g : Nat → Int32) (s : Int32) : Nat → Int32
  | 0 => s
  | n + 1 => pw_1 c f g n (pw_p c f g s n)
def pw_k (H : Nat) (c : Int32) (f g : Nat → Int32) (m : Nat) : Nat → Int32
  | 0 => 1 <<< (Int32.ofNat m &&& 31)
  | k + 1 => pw_p c f g (pw_k H c f g m k) H
section PR
variable {H : Nat} {c : Int32} {f g : Nat → Int32}
theorem pw_sh {e : Int32} (h1 : 0 ≤ e.toInt) (h2 : e.toInt ≤ 5) : pk ((1 : Int32) <<< (e &&& 31)) ∧ (∀ i, i < 6 → (hm ((1 : Int32) <<< (e &&& 31)) i = true ↔ i = e.toNatClampNeg)) := by
  have e0 : e.toNatClampNeg = e.toInt.toNat := rfl
  rw [pn_nat h1 (by omega)]
  have q : (Int32.ofNat e.toNatClampNeg).toNatClampNeg = e.toNatClampNeg := by rw [← pn_nat h1 (by omega)]
  rw [q]
  exact ⟨(pk_sh (by omega)).1, fun i hi => hm_sh (by omega) hi⟩
theorem pw_1k {n : Nat} {s : Int32} (hs : pk s) (hf : 0 ≤ (f n).toInt ∧ (f n).toInt ≤ 5) (hg : 0 ≤ (g n).toInt ∧ (g n).toInt ≤ 5) : pk (pw_1 c f g n s) ∧ s.toInt ≤ (pw_1 c f g n s).toInt ∧ (∀ i, hm s i = true → hm (pw_1 c f g n s) i = true) := by
  unfold pw_1
  split
  · have h1 := (pk_or (pw_sh hf.1 hf.2).1 (pw_sh hg.1 hg.2).1).1
    have h2 := pk_or hs h1
    exact ⟨h2.1, h2.2, fun i hi => by rw [hm_or, hi]; rfl⟩
  · exact ⟨hs, Int.le_refl _, fun i hi => hi⟩
theorem pw_pk {s : Int32} (hs : pk s) (hf : ∀ k, k < H → 0 ≤ (f k).toInt ∧ (f k).toInt ≤ 5) (hg : ∀ k, k < H → 0 ≤ (g k).toInt ∧ (g k).toInt ≤ 5) : ∀ n, n ≤ H → pk (pw_p c f g s n) ∧ s.toInt ≤ (pw_p c f g s n).toInt ∧ (∀ i, hm s i = true → hm (pw_p c f g s n) i = true)
  | 0, _ => ⟨hs, Int.le_refl _, fun _ h => h⟩
  | n + 1, hn => by
    obtain ⟨a1, a2, a3⟩ := pw_pk hs hf hg n (by omega)
    obtain ⟨b1, b2, b3⟩ := pw_1k (c := c) a1 (hf n (by omega)) (hg n (by omega))
    exact ⟨b1, Int.le_trans a2 b2, fun i hi => b3 i (a3 i hi)⟩
theorem pw_mono {s : Int32} (hs : pk s) (hf : ∀ k, k < H → 0 ≤ (f k).toInt ∧ (f k).toInt ≤ 5) (hg : ∀ k, k < H → 0 ≤ (g k).toInt ∧ (g k).toInt ≤ 5) : ∀ n d, n + d ≤ H → (pw_p c f g s n).toInt ≤ (pw_p c f g s (n + d)).toInt
  | n, 0, _ => Int.le_refl _
  | n, d + 1, h => by
    have h1 := pw_mono hs hf hg n d (by omega)
    have a1 := pw_pk (c := c) hs hf hg (n + d) (by omega)
    have b1 := pw_1k (c := c) a1.1 (hf (n + d) (by omega)) (hg (n + d) (by omega))
    exact Int.le_trans h1 b1.2.1
theorem pw_kk {m : Nat} (hm6 : m < 6) (hf : ∀ k, k < H → 0 ≤ (f k).toInt ∧ (f k).toInt ≤ 5) (hg : ∀ k, k < H → 0 ≤ (g k).toInt ∧ (g k).toInt ≤ 5) : ∀ k, pk (pw_k H c f g m k) ∧ hm (pw_k H c f g m k) m = true
  | 0 => ⟨(pk_sh hm6).1, (hm_sh hm6 hm6).2 rfl⟩
  | k + 1 => by
    obtain ⟨a1, a2⟩ := pw_kk hm6 hf hg k
    have h := pw_pk (c := c) a1 hf hg H (Nat.le_refl _)
    exact ⟨h.1, h.2.2 m a2⟩
theorem pw_in {m : Nat} (hm6 : m < 6) (hf : ∀ k, k < H → 0 ≤ (f k).toInt ∧ (f k).toInt ≤ 5) (hg : ∀ k, k < H → 0 ≤ (g k).toInt ∧ (g k).toInt ≤ 5) {T : Nat → Prop} (hT : pt_cl H c f g T) (h0 : T m) : ∀ k i, i < 6 → hm (pw_k H c f g m k) i = true → T i
  | 0, i, hi, h => by
    have := (hm_sh hm6 hi).1 h
    subst this
    exact h0
  | k + 1, i, hi, h => by
    have ih := pw_in hm6 hf hg hT h0 k
    have pkk := (pw_kk (c := c) hm6 hf hg k).1
    have key : ∀ n, n ≤ H → ∀ i, i < 6 → hm (pw_p c f g (pw_k H c f g m k) n) i = true → T i := by
      intro n
      induction n with
      | zero => intro _ i hi h; exact ih i hi h
      | succ n ihn =>
        intro hn i hi h
        have ih' := ihn (by omega)
        have ps := (pw_pk (c := c) pkk hf hg n (by omega)).1
        have hF := hf n (by omega)
        have hG := hg n (by omega)
        have e1 : (f n).toNatClampNeg = (f n).toInt.toNat := rfl
        have e2 : (g n).toNatClampNeg = (g n).toInt.toNat := rfl
        have h' : hm (pw_1 c f g n (pw_p c f g (pw_k H c f g m k) n)) i = true := h
        generalize pw_p c f g (pw_k H c f g m k) n = s at ps h' ih'
        unfold pw_1 at h'
        split at h'
        · rename_i q
          obtain ⟨q1, q2⟩ := q
          have tt := hT n (by omega) q1
          have tf : T (f n).toNatClampNeg := by
            rcases q2 with q2 | q2
            · exact ih' _ (by omega) ((pb_hi ps hF.1 hF.2).1 q2)
            · exact tt.2 (ih' _ (by omega) ((pb_hi ps hG.1 hG.2).1 q2))
          rw [hm_or, hm_or, Bool.or_eq_true, Bool.or_eq_true] at h'
          rcases h' with h' | h' | h'
          · exact ih' i hi h'
          · have := ((pw_sh hF.1 hF.2).2 i hi).1 h'
            rw [this]
            exact tf
          · have := ((pw_sh hG.1 hG.2).2 i hi).1 h'
            rw [this]
            exact tt.1 tf
        · exact ih' i hi h'
    exact key H (Nat.le_refl _) i hi h
/-- where nothing comes any more, it is closed -/
theorem pw_fix {s : Int32} (hs : pk s) (hf : ∀ k, k < H → 0 ≤ (f k).toInt ∧ (f k).toInt ≤ 5) (hg : ∀ k, k < H → 0 ≤ (g k).toInt ∧ (g k).toInt ≤ 5) (h : pw_p c f g s H = s) : pt_cl H c f g (fun i => hm s i = true) := by
  intro k hk hc
  have e : ∀ n, n ≤ H → pw_p c f g s n = s := fun n hn => by
    have a1 := (pw_pk (c := c) hs hf hg n hn).2.1
    have a2 := pw_mono (c := c) hs hf hg n (H - n) (by omega)
    rw [show n + (H - n) = H by omega, h] at a2
    exact Int32.toInt_inj.mp (by omega)
  have e1 := e (k + 1) (by omega)
  have e1' : pw_1 c f g k (pw_p c f g s k) = s := e1
  rw [e k (by omega)] at e1'
  have hF := hf k hk
  have hG := hg k hk
  have n1 : (f k).toNatClampNeg = (f k).toInt.toNat := rfl
  have n2 : (g k).toNatClampNeg = (g k).toInt.toNat := rfl
  have key : (hm s (f k).toNatClampNeg = true ∨ hm s (g k).toNatClampNeg = true) → hm s (f k).toNatClampNeg = true ∧ hm s (g k).toNatClampNeg = true := by
    intro q
    have q' : pb s (f k) = 1 ∨ pb s (g k) = 1 := by
      rcases q with q | q
      · exact Or.inl ((pb_hi hs hF.1 hF.2).2 q)
      · exact Or.inr ((pb_hi hs hG.1 hG.2).2 q)
    unfold pw_1 at e1'
    rw [if_pos ⟨hc, q'⟩] at e1'
    constructor
    · rw [← e1', hm_or, hm_or, ((pw_sh hF.1 hF.2).2 (f k).toNatClampNeg (by omega)).2 rfl]
      simp
    · rw [← e1', hm_or, hm_or, ((pw_sh hG.1 hG.2).2 (g k).toNatClampNeg (by omega)).2 rfl]
      simp
  exact ⟨fun q => (key (Or.inl q)).2, fun q => (key (Or.inr q)).1⟩
theorem pw_st {m k : Nat} (h : pw_p c f g (pw_k H c f g m k) H = pw_k H c f g m k) : ∀ d, pw_k H c f g m (k + d) = pw_k H c f g m k
  | 0 => rfl
  | d + 1 => by
    have ih := pw_st h d
    show pw_p c f g (pw_k H c f g m (k + d)) H = _
    rw [ih, h]
/-- behind 64 rounds nothing comes any more -/
theorem pw_64 {m : Nat} (hm6 : m < 6) (hf : ∀ k, k < H → 0 ≤ (f k).toInt ∧ (f k).toInt ≤ 5) (hg : ∀ k, k < H → 0 ≤ (g k).toInt ∧ (g k).toInt ≤ 5) : pw_p c f g (pw_k H c f g m 64) H = pw_k H c f g m 64 := by
  by_cases q : ∃ k, k ≤ 64 ∧ pw_p c f g (pw_k H c f g m k) H = pw_k H c f g m k
  · obtain ⟨k, hk, e⟩ := q
    have := pw_st e (64 - k)
    rw [show k + (64 - k) = 64 by omega] at this
    rw [this, e]
  · have key : ∀ k : Nat, k ≤ 64 → (k : Int) ≤ (pw_k H c f g m k).toInt := by
      intro k
      induction k with
      | zero => intro _; exact (pw_kk (c := c) hm6 hf hg 0).1.1
      | succ k ih =>
        intro hk
        have h1 := ih (by omega)
        have h2 := (pw_pk (c := c) (pw_kk (c := c) hm6 hf hg k).1 hf hg H (Nat.le_refl _)).2.1
        have h3 : ¬ (pw_k H c f g m k).toInt = (pw_p c f g (pw_k H c f g m k) H).toInt := fun e => q ⟨k, by omega, (Int32.toInt_inj.mp e).symm⟩
        show ((k + 1 : Nat) : Int) ≤ (pw_p c f g (pw_k H c f g m k) H).toInt
        omega
    have h1 := key 64 (Nat.le_refl _)
    have h2 := (pw_kk (c := c) hm6 hf hg 64).1.2
    omega
end PR
/-- both ways find the same part -/
theorem pt_eq {M H m : Nat} {c : Int32} {a b P : Nat → Int32} (hM : M ≤ 6) (hm6 : m < M) (hf : ∀ k, k < H → 0 ≤ (a k).toInt ∧ (a k).toInt ≤ 5) (hg : ∀ k, k < H → 0 ≤ (b k).toInt ∧ (b k).toInt ≤ 5) (hab : ∀ k, k < H → (a k).toNatClampNeg < M ∧ (b k).toNatClampNeg < M) : pt_h M c a b P H m = pw_k H c a b m 64 := by
  have hI := pt_ih (c := c) (P := P) hM hab H (Nat.le_refl _)
  have kk := pw_kk (c := c) (m := m) (by omega) hf hg 64
  refine hm_ext (hI.ok m hm6) kk.1 (fun i hi => ⟨fun h => ?_, fun h => ?_⟩)
  · exact hI.i4 _ (pw_fix kk.1 hf hg (pw_64 (by omega) hf hg)) m i hm6 hi kk.2 h
  · refine pw_in (T := fun x => hm (pt_h M c a b P H m) x = true) (by omega) hf hg (fun k hk hc => ?_) (hI.i1 m hm6) 64 i hi h
    obtain ⟨k1, k2⟩ := hab k hk
    have e := hI.i3 k hk hc
    constructor
    · intro q
      have := (hI.i2 m _ hm6 (by omega) q).2
      rw [← this, e]
      exact hI.i1 _ k2
    · intro q
      have := (hI.i2 m _ hm6 (by omega) q).2
      rw [← this, ← e]
      exact hI.i1 _ k1
/-! more of parts -/
theorem pw_end {H : Nat} {c : Int32} {f g : Nat → Int32} {m k : Nat} (hm6 : m < 6) (hf : ∀ k, k < H → 0 ≤ (f k).toInt ∧ (f k).toInt ≤ 5) (hg : ∀ k, k < H → 0 ≤ (g k).toInt ∧ (g k).toInt ≤ 5) (h : pw_k H c f g m (k + 1) = pw_k H c f g m k) : pw_k H c f g m k = pw_k H c f g m 64 := by
  have h' : pw_p c f g (pw_k H c f g m k) H = pw_k H c f g m k := h
  by_cases q : k ≤ 64
  · have := pw_st h' (64 - k)
    rw [show k + (64 - k) = 64 by omega] at this
    exact this.symm
  · have := pw_st (pw_64 (c := c) hm6 hf hg) (k - 64)
    rw [show 64 + (k - 64) = k by omega] at this
    exact this
theorem pw_pc {c : Int32} {f g f' g' : Nat → Int32} {s : Int32} : ∀ n, (∀ k, k < n → f k = f' k ∧ g k = g' k) → pw_p c f g s n = pw_p c f' g' s n
  | 0, _ => rfl
  | n + 1, h => by
    have ih := pw_pc (c := c) (s := s) n (fun k hk => h k (by omega))
    have hn := h n (by omega)
    show pw_1 c f g n (pw_p c f g s n) = pw_1 c f' g' n (pw_p c f' g' s n)
    rw [ih]
    unfold pw_1
    rw [hn.1, hn.2]
theorem pw_kc {H : Nat} {c : Int32} {f g f' g' : Nat → Int32} {m : Nat} (h : ∀ k, k < H → f k = f' k ∧ g k = g' k) : ∀ n, pw_k H c f g m n = pw_k H c f' g' m n
  | 0 => rfl
  | n + 1 => by
    have ih := pw_kc (c := c) (m := m) h n
    show pw_p c f g (pw_k H c f g m n) H = pw_p c f' g' (pw_k H c f' g' m n) H
    rw [ih, pw_pc H h]
theorem pj_1 {t : Int32} {P : Nat → Int32} {n : Nat} (h : pb t (Int32.ofNat n) = 1) : upd (pt_j t P n) n t = pt_j t P (n + 1) := by
  funext j
  unfold upd pt_j
  by_cases e : j = n
  · subst e
    rw [if_pos rfl, if_pos ⟨Nat.lt_succ_self _, h⟩]
  · rw [if_neg e]
    by_cases q : j < n ∧ pb t (Int32.ofNat j) = 1
    · rw [if_pos q, if_pos ⟨by omega, q.2⟩]
    · rw [if_neg q, if_neg (fun z => q ⟨by omega, z.2⟩)]
theorem pj_0 {t : Int32} {P : Nat → Int32} {n : Nat} (h : ¬ pb t (Int32.ofNat n) = 1) : pt_j t P n = pt_j t P (n + 1) := by
  funext j
  unfold pt_j
  by_cases q : j < n ∧ pb t (Int32.ofNat j) = 1
  · rw [if_pos q, if_pos ⟨by omega, q.2⟩]
  · rw [if_neg q]
    rw [if_neg]
    intro z
    by_cases e : j = n
    · subst e
      exact h z.2
    · exact q ⟨by omega, z.2⟩
theorem pj_z {t : Int32} {P : Nat → Int32} : pt_j t P 0 = P := by
  funext j
  unfold pt_j
  rw [if_neg (by omega)]
theorem p0_1 {P : Nat → Int32} {n : Nat} : upd (pt_0 P n) n (1 <<< (Int32.ofNat n &&& 31)) = pt_0 P (n + 1) := by
  funext j
  unfold upd pt_0
  by_cases e : j = n
  · subst e
    rw [if_pos rfl, if_pos (Nat.lt_succ_self _)]
  · rw [if_neg e]
    by_cases q : j < n
    · rw [if_pos q, if_pos (by omega)]
    · rw [if_neg q, if_neg (by omega)]
theorem p0_z {P : Nat → Int32} : pt_0 P 0 = P := by
  funext j
  unfold pt_0
  rw [if_neg (by omega)]
/-! the answers -/
abbrev hu_b (M H c m : Int32) : Prop := m.toInt < 0 ∨ M.toInt ≤ m.toInt ∨ c.toInt < 0 ∨ ((1 : Int32) <<< (H &&& 31)).toInt ≤ c.toInt
def hu_t (M H s c m q : Int32) : Int := if hu_b M H c m then -1000000001 else if s &&& q = 0 then -1000000002 else (s &&& q).toInt
def hu_s (M H s c m q : Int32) : Int := if hu_b M H c m then s.toInt else if s &&& q = 0 then s.toInt else (s &&& q).toInt
def hu_P (x7 x10 x11 x65 : Nat → Int32) (c m : Int32) : Int32 := pt_h (x7 6).toNatClampNeg c x10 x11 x65 (x7 7).toNatClampNeg m.toNatClampNeg
def hu_Q (x76 x80 x81 : Nat → Int32) (c m : Int32) : Int32 := pw_k (x76 4).toNatClampNeg c x80 x81 m.toNatClampNeg 64
def hu_u (M : Int32) : Int := (((1 : Int32) <<< (M &&& 31)) - 1).toInt
def hu_j (x7 x65 : Nat → Int32) (t : Int32) (j : Nat) : Int := (pt_j t x65 (x7 6).toNatClampNeg j).toInt
def hu_f (x7 x10 x11 x65 : Nat → Int32) (c : Int32) (j : Nat) : Int := (pt_h (x7 6).toNatClampNeg c x10 x11 x65 (x7 7).toNatClampNeg j).toInt
/-! the best test -/
def on_l (x : Int32) : Nat → Int32
  | 0 => 0
  | n + 1 => on_l x n + ((x >>> (Int32.ofNat n &&& 31)) &&& 1)
def ir_s (x k : Int32) : Int32 := (x.toUInt32 >>> (k.toUInt32 &&& Int32.toUInt32 31)).toInt32
def bc_1 (x : Int32) : Int32 := x - (ir_s x 1 &&& 1431655765)
def bc_2 (x : Int32) : Int32 := (x &&& 858993459) + (ir_s x 2 &&& 858993459)
def bc_3 (x : Int32) : Int32 := (x + ir_s x 4) &&& 252645135
def bc_4 (x : Int32) : Int32 := x + ir_s x 8
def bc_5 (x : Int32) : Int32 := x + ir_s x 16
def bc_J (x : Int32) : Int32 := bc_5 (bc_4 (bc_3 (bc_2 (bc_1 x)))) &&& 63
theorem bc_on0 : ∀ x : Fin 256, bc_J (Int32.ofNat x.val) = on_l (Int32.ofNat x.val) 8 ∧ 0 ≤ (on_l (Int32.ofNat x.val) 8).toInt ∧ (on_l (Int32.ofNat x.val) 8).toInt ≤ 8 := by decide +kernel
theorem pn_nat2 {x : Int32} (h1 : 0 ≤ x.toInt) : x = Int32.ofNat x.toNatClampNeg := by
  refine Int32.toInt_inj.mp ?_
  have e : x.toNatClampNeg = x.toInt.toNat := rfl
  have l := Int32.toInt_lt x
  rw [Int32.toInt_ofNat_of_lt (by rw [e]; omega), e]
  omega
theorem bc_on {x : Int32} (h1 : 0 ≤ x.toInt) (h2 : x.toInt ≤ 255) : bc_J x = on_l x 8 ∧ 0 ≤ (on_l x 8).toInt ∧ (on_l x 8).toInt ≤ 8 := by
  have e : x.toNatClampNeg = x.toInt.toNat := rfl
  have := bc_on0 ⟨x.toNatClampNeg, by omega⟩
  dsimp only at this
  rw [← pn_nat2 h1] at this
  exact this
def mx (x y : Int32) : Int32 := if x < y then y else x
def lw_f (P : Nat → Int32) (s : Int32) : Nat → Int32
  | 0 => 0
  | n + 1 => mx (lw_f P s n) (bc_J (P n &&& s))
theorem lw_fc {P P' : Nat → Int32} {s : Int32} : ∀ n, (∀ j, j < n → P j = P' j) → lw_f P s n = lw_f P' s n
  | 0, _ => rfl
  | n + 1, h => by
    show mx (lw_f P s n) (bc_J (P n &&& s)) = mx (lw_f P' s n) (bc_J (P' n &&& s))
    rw [lw_fc n (fun j hj => h j (by omega)), h n (by omega)]
def lw (x7 x10 x11 x65 : Nat → Int32) (s c : Int32) : Int32 := lw_f (pt_h (x7 6).toNatClampNeg c x10 x11 x65 (x7 7).toNatClampNeg) s (x7 6).toNatClampNeg
theorem pt_hc {M : Nat} {c : Int32} {a b P P' : Nat → Int32} (h : ∀ j, j < 6 → P j = P' j) : ∀ n, (∀ k, k < n → (a k).toNatClampNeg < 6 ∧ (b k).toNatClampNeg < 6) → ∀ j, j < 6 → pt_h M c a b P n j = pt_h M c a b P' n j
  | 0, _, j, hj => by
    show pt_0 P M j = pt_0 P' M j
    unfold pt_0
    rw [h j hj]
  | n + 1, hk, j, hj => by
    have ih := pt_hc (M := M) (c := c) h n (fun k hk' => hk k (by omega))
    have hn := hk n (by omega)
    show (if pb c (Int32.ofNat n) = 0 then pt_j (pt_h M c a b P n (a n).toNatClampNeg ||| pt_h M c a b P n (b n).toNatClampNeg) (pt_h M c a b P n) M else pt_h M c a b P n) j = (if pb c (Int32.ofNat n) = 0 then pt_j (pt_h M c a b P' n (a n).toNatClampNeg ||| pt_h M c a b P' n (b n).toNatClampNeg) (pt_h M c a b P' n) M else pt_h M c a b P' n) j
    by_cases q : pb c (Int32.ofNat n) = 0
    · rw [if_pos q, if_pos q]
      unfold pt_j
      rw [ih j hj, ih _ hn.1, ih _ hn.2]
    · rw [if_neg q, if_neg q]
      exact ih j hj
def pt_n (x7 x10 x11 P : Nat → Int32) (c : Int32) : Nat → Int32 := pt_h (x7 6).toNatClampNeg c x10 x11 P (x7 7).toNatClampNeg
def bt_n (x7 x10 x11 : Nat → Int32) (s c : Int32) (q : Int32 × Int32 × (Nat → Int32)) : Int32 × Int32 × (Nat → Int32) := if (lw x7 x10 x11 q.2.2 s c).toInt < q.2.1.toInt ∨ ((lw x7 x10 x11 q.2.2 s c).toInt = q.2.1.toInt ∧ (bc_J c).toInt < (bc_J q.1).toInt) then (c, lw x7 x10 x11 q.2.2 s c, pt_n x7 x10 x11 q.2.2 c) else (q.1, q.2.1, pt_n x7 x10 x11 q.2.2 c)
def bt_f (x7 x10 x11 x65 : Nat → Int32) (s : Int32) : Nat → Int32 × Int32 × (Nat → Int32)
  | 0 => (0, lw x7 x10 x11 x65 s 0, pt_n x7 x10 x11 x65 0)
  | n + 1 => bt_n x7 x10 x11 s (Int32.ofNat (n + 1)) (bt_f x7 x10 x11 x65 s n)
def bs_n (h : Int32) : Nat := ((1 : Int32) <<< (h &&& 31)).toInt.toNat - 1
def bt (x7 x10 x11 x64 x65 : Nat → Int32) (w : Int32) : Int := if ¬ (w.toInt = 0 ∨ w.toInt = 1) then -1000000001 else if (x64 1).toInt = 0 then -1000000002 else if w.toInt = 0 then (bt_f x7 x10 x11 x65 (x64 1) (bs_n (x7 7))).1.toInt else (bt_f x7 x10 x11 x65 (x64 1) (bs_n (x7 7))).2.1.toInt
def wr_f (Q : Nat → Int32) (s : Int32) : Nat → Int32
  | 0 => 0
  | n + 1 => if (wr_f Q s n).toInt < (on_l (s &&& Q n) 8).toInt then on_l (s &&& Q n) 8 else wr_f Q s n
def wr_q (x76 x80 x81 : Nat → Int32) (c : Int32) : Nat → Int32 := fun m => pw_k (x76 4).toNatClampNeg c x80 x81 m 64
def wr (x76 x80 x81 : Nat → Int32) (c : Int32) : Int32 := wr_f (wr_q x76 x80 x81 c) (x76 39) (x76 0).toNatClampNeg
def br_n (x76 x80 x81 : Nat → Int32) (c b : Int32) : Int32 := if (wr x76 x80 x81 c - wr x76 x80 x81 b).toInt < 0 ∨ ((wr x76 x80 x81 c - wr x76 x80 x81 b).toInt = 0 ∧ (on_l c 8).toInt < (on_l b 8).toInt) then c else b
def b2_f (x76 x80 x81 : Nat → Int32) : Nat → Int32
  | 0 => 0
  | n + 1 => br_n x76 x80 x81 (Int32.ofNat (n + 1)) (b2_f x76 x80 x81 n)
def br (x76 x80 x81 : Nat → Int32) (w : Int32) : Int := if ¬ (w.toInt = 0 ∨ w.toInt = 1) then -1000000001 else if (x76 39).toInt = 0 then -1000000002 else if w.toInt = 0 then (b2_f x76 x80 x81 (bs_n (x76 4))).toInt else (wr x76 x80 x81 (b2_f x76 x80 x81 (bs_n (x76 4)))).toInt
/-! both are the same -/
theorem wf_b {Q : Nat → Int32} {s : Int32} : ∀ n, (∀ j, j < n → 0 ≤ (s &&& Q j).toInt ∧ (s &&& Q j).toInt ≤ 255) → 0 ≤ (wr_f Q s n).toInt ∧ (wr_f Q s n).toInt ≤ 8
  | 0, _ => ⟨by show (0 : Int) ≤ (0 : Int32).toInt; decide, by show (0 : Int32).toInt ≤ (8 : Int); decide⟩
  | n + 1, h => by
    have ih := wf_b n (fun j hj => h j (by omega))
    have hn := h n (by omega)
    show 0 ≤ (if (wr_f Q s n).toInt < (on_l (s &&& Q n) 8).toInt then on_l (s &&& Q n) 8 else wr_f Q s n).toInt ∧ (if (wr_f Q s n).toInt < (on_l (s &&& Q n) 8).toInt then on_l (s &&& Q n) 8 else wr_f Q s n).toInt ≤ 8
    split
    · exact (bc_on hn.1 hn.2).2
    · exact ih
theorem bw_e {P Q : Nat → Int32} {s : Int32} : ∀ n, (∀ j, j < n → P j = Q j ∧ 0 ≤ (s &&& Q j).toInt ∧ (s &&& Q j).toInt ≤ 255) → lw_f P s n = wr_f Q s n
  | 0, _ => rfl
  | n + 1, h => by
    have ih := bw_e n (fun j hj => h j (by omega))
    have hn := h n (by omega)
    show mx (lw_f P s n) (bc_J (P n &&& s)) = (if (wr_f Q s n).toInt < (on_l (s &&& Q n) 8).toInt then on_l (s &&& Q n) 8 else wr_f Q s n)
    rw [ih, hn.1, Int32.and_comm, (bc_on hn.2.1 hn.2.2).1]
    unfold mx
    by_cases q : wr_f Q s n < on_l (s &&& Q n) 8
    · rw [if_pos q, if_pos (Int32.lt_iff_toInt_lt.mp q)]
    · rw [if_neg q, if_neg (fun z => q (Int32.lt_iff_toInt_lt.mpr z))]
theorem sb_t {x y : Int32} (h1 : 0 ≤ x.toInt ∧ x.toInt ≤ 255) (h2 : 0 ≤ y.toInt ∧ y.toInt ≤ 255) : (x - y).toInt = x.toInt - y.toInt := by
  rw [Int32.toInt_sub, Int.bmod_eq_of_le (by omega) (by omega)]
theorem on_t {n : Nat} (h : n ≤ 255) : (Int32.ofNat n).toInt = (n : Int) := Int32.toInt_ofNat_of_lt (by omega)
theorem bb_e {x7 x10 x11 x65 x76 x80 x81 : Nat → Int32} {s : Int32} (hl : ∀ (P : Nat → Int32) (c : Int32), lw x7 x10 x11 P s c = wr x76 x80 x81 c) (hb : ∀ c, 0 ≤ (wr x76 x80 x81 c).toInt ∧ (wr x76 x80 x81 c).toInt ≤ 8) : ∀ n, n ≤ 255 → (bt_f x7 x10 x11 x65 s n).1 = b2_f x76 x80 x81 n ∧ (bt_f x7 x10 x11 x65 s n).2.1 = wr x76 x80 x81 (b2_f x76 x80 x81 n) ∧ 0 ≤ (b2_f x76 x80 x81 n).toInt ∧ (b2_f x76 x80 x81 n).toInt ≤ 255
  | 0, _ => ⟨rfl, hl _ _, by show (0 : Int) ≤ (0 : Int32).toInt; decide, by show (0 : Int32).toInt ≤ (255 : Int); decide⟩
  | n + 1, hn => by
    obtain ⟨i1, i2, i3, i4⟩ := bb_e hl hb n (by omega)
    have t := on_t hn
    have t0 : 0 ≤ (Int32.ofNat (n + 1)).toInt ∧ (Int32.ofNat (n + 1)).toInt ≤ 255 := by omega
    have b1 := hb (Int32.ofNat (n + 1))
    have b2 := hb (b2_f x76 x80 x81 n)
    have o1 := (bc_on t0.1 t0.2).1
    have o2 := (bc_on i3 i4).1
    have es := sb_t (x := wr x76 x80 x81 (Int32.ofNat (n + 1))) (y := wr x76 x80 x81 (b2_f x76 x80 x81 n)) ⟨by omega, by omega⟩ ⟨by omega, by omega⟩
    show (bt_n x7 x10 x11 s (Int32.ofNat (n + 1)) (bt_f x7 x10 x11 x65 s n)).1 = br_n x76 x80 x81 (Int32.ofNat (n + 1)) (b2_f x76 x80 x81 n) ∧ (bt_n x7 x10 x11 s (Int32.ofNat (n + 1)) (bt_f x7 x10 x11 x65 s n)).2.1 = wr x76 x80 x81 (br_n x76 x80 x81 (Int32.ofNat (n + 1)) (b2_f x76 x80 x81 n)) ∧ 0 ≤ (br_n x76 x80 x81 (Int32.ofNat (n + 1)) (b2_f x76 x80 x81 n)).toInt ∧ (br_n x76 x80 x81 (Int32.ofNat (n + 1)) (b2_f x76 x80 x81 n)).toInt ≤ 255
    unfold bt_n br_n
    rw [hl, i1, i2, o1, o2, es]
    by_cases q : (wr x76 x80 x81 (Int32.ofNat (n + 1))).toInt < (wr x76 x80 x81 (b2_f x76 x80 x81 n)).toInt ∨ ((wr x76 x80 x81 (Int32.ofNat (n + 1))).toInt = (wr x76 x80 x81 (b2_f x76 x80 x81 n)).toInt ∧ (on_l (Int32.ofNat (n + 1)) 8).toInt < (on_l (b2_f x76 x80 x81 n) 8).toInt)
    · rw [if_pos q, if_pos (by omega)]
      exact ⟨rfl, rfl, t0.1, t0.2⟩
    · rw [if_neg q, if_neg (by omega)]
      exact ⟨rfl, rfl, i3, i4⟩
def hG (n : Nat) (p1 p2 p3 : Int) (x7 x10 x11 x64 x65 x76 x80 x81 : Nat → Int32) : Int := match n with
  | 0 => hu_t (x7 6) (x7 7) (x64 1) (Int32.ofInt p1) (Int32.ofInt p2) (hu_P x7 x10 x11 x65 (Int32.ofInt p1) (Int32.ofInt p2))
  | 1 => hu_s (x7 6) (x7 7) (x64 1) (Int32.ofInt p1) (Int32.ofInt p2) (hu_P x7 x10 x11 x65 (Int32.ofInt p1) (Int32.ofInt p2))
  | 2 => hu_t (x76 0) (x76 4) (x76 39) (Int32.ofInt p1) (Int32.ofInt p2) (hu_Q x76 x80 x81 (Int32.ofInt p1) (Int32.ofInt p2))
  | 3 => hu_s (x76 0) (x76 4) (x76 39) (Int32.ofInt p1) (Int32.ofInt p2) (hu_Q x76 x80 x81 (Int32.ofInt p1) (Int32.ofInt p2))
  | 4 => hu_t (x7 6) (x7 7) (x64 1) (Int32.ofInt p2) (Int32.ofInt p3) (hu_P x7 x10 x11 x65 (Int32.ofInt p2) (Int32.ofInt p3))
  | 5 => hu_s (x7 6) (x7 7) (x64 1) (Int32.ofInt p2) (Int32.ofInt p3) (hu_P x7 x10 x11 x65 (Int32.ofInt p2) (Int32.ofInt p3))
  | 6 => (hu_Q x76 x80 x81 (Int32.ofInt p2) (Int32.ofInt p1)).toInt
  | 7 => hu_u (x7 6)
  | 8 => hu_u (x76 0)
  | 10 => hu_j x7 x65 (Int32.ofInt p2) 0
  | 11 => hu_j x7 x65 (Int32.ofInt p2) 1
  | 12 => hu_j x7 x65 (Int32.ofInt p2) 2
  | 13 => hu_j x7 x65 (Int32.ofInt p2) 3
  | 14 => hu_j x7 x65 (Int32.ofInt p2) 4
  | 15 => hu_j x7 x65 (Int32.ofInt p2) 5
  | 20 => hu_f x7 x10 x11 x65 (Int32.ofInt p2) 0
  | 21 => hu_f x7 x10 x11 x65 (Int32.ofInt p2) 1
  | 22 => hu_f x7 x10 x11 x65 (Int32.ofInt p2) 2
  | 23 => hu_f x7 x10 x11 x65 (Int32.ofInt p2) 3
  | 24 => hu_f x7 x10 x11 x65 (Int32.ofInt p2) 4
  | 25 => hu_f x7 x10 x11 x65 (Int32.ofInt p2) 5
  | 30 => (lw x7 x10 x11 x65 (x64 1) (Int32.ofInt p2)).toInt
  | 31 => bt x7 x10 x11 x64 x65 (Int32.ofInt p2)
  | 32 => bt x7 x10 x11 x64 x65 (Int32.ofInt p1)
  | 33 => (wr x76 x80 x81 (Int32.ofInt p1)).toInt
  | 34 => br x76 x80 x81 (Int32.ofInt p1)
  | _ => 0
def ab_gh (n : Nat) (p : Nat → Int) (cs : ex_C) : Int := hG n (p 1) (p 2) (p 3) (gi cs 7) (gi cs 10) (gi cs 11) (gi cs 64) (gi cs 65) (gi cs 76) (gi cs 80) (gi cs 81)
def ab_gm (n : Nat) : Nat := if n = 7 then 0 else 3
def ab_gs (n : Nat) : List Nat := if n = 7 then [7] else [7, 10, 11, 64, 65, 76, 80, 81]
theorem ab_gmk (n : Nat) : ab_gm n ≤ 9 := by
  unfold ab_gm
  split <;> omega
theorem ab_ghk {n : Nat} {p p' : Nat → Int} {cs cs' : ex_C} (h1 : ∀ i, i < ab_gm n → p (i + 1) = p' (i + 1)) (h2 : ∀ k ∈ ab_gs n, ∀ j, ab_rd cs k j = ab_rd cs' k j) : ab_gh n p cs = ab_gh n p' cs' := by
  have h3 : ∀ k ∈ ab_gs n, gi cs k = gi cs' k := fun k hk => gi_c (h2 k hk)
  unfold ab_gh
  unfold ab_gm at h1
  unfold ab_gs at h3
  by_cases e : n = 7
  · subst e
    rw [if_pos rfl] at h3
    have k7 := h3 7 (by simp)
    show hu_u (gi cs 7 6) = hu_u (gi cs' 7 6)
    rw [k7]
  · rw [if_neg e] at h1 h3
    have e1 : p 1 = p' 1 := h1 0 (by omega)
    have e2 : p 2 = p' 2 := h1 1 (by omega)
    have e3 : p 3 = p' 3 := h1 2 (by omega)
    rw [e1, e2, e3, h3 7 (by simp), h3 10 (by simp), h3 11 (by simp), h3 64 (by simp), h3 65 (by simp), h3 76 (by simp), h3 80 (by simp), h3 81 (by simp)]

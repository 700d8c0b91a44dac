/-- a method with loops: there are invariants with which its walk goes through -/
def ex_sl (cx : ex_K) (cc : ByteArray) (maxL : Nat) (ret : Option FieldType) : ex_S := fun av cs Q => av.all (fun w => w.category == 1) = true ∧ av.length ≤ maxL ∧ ∃ (fuel : Nat) (I : Nat → Option (Nat → ex_L → ex_V → ex_C → Prop)), ex_wp ec_xt cx cc ret (fun pc => (I pc).map (fun J lv st cs => ∃ n, J n lv st cs)) Q fuel 0 (ex_l0 av maxL) [] cs ∧ ∀ pc J n lv st cs, I pc = some J → J n lv st cs → ex_wp ec_xt cx cc ret (fun pc' => (I pc').map (fun J' lv st cs => ∃ n', n' < n ∧ J' n' lv st cs)) Q fuel pc lv st cs
theorem ex_lmet {l : Launch} {y : MethodName} {cc : ByteArray} {maxL : Nat} {ret : Option FieldType} {fr lo : Nat} {cx : ex_K} (hy : plainName y.cls = true) (hown : cx.1 = y.cls) (hok : ex_ok l fr lo cx) : ex_Met l y cc maxL ret fr lo (ex_sl cx cc maxL ret) := by
  refine ex_met hy (fun av cs Q h => ?_)
  obtain ⟨h1, h2, fuel, I, h3, h4⟩ := h
  refine ⟨fun w hw => by simpa using List.all_eq_true.mp h1 w hw, h2, fun p e R s m args below meth c D ad ca n0 A C => ?_⟩
  rw [← hown] at C
  refine ex_wp_sound C hok ⟨Nat.zero_le _, Nat.zero_le _⟩ (fun _ _ _ _ hd hr hq => ex_s_ireturn C hd hr hq) (fun _ _ _ hd hr hq => ex_s_return C hd hr hq) (fun pc J lv st cs hJ h => ?_) _ _ _ _ _ h3
  cases hI : I pc with
  | none => rw [hI] at hJ; cases hJ
  | some J0 =>
    rw [hI] at hJ
    cases hJ
    obtain ⟨n, hn⟩ := h
    exact ex_loop C hok ⟨Nat.zero_le _, Nat.zero_le _⟩ (fun _ _ _ _ hd hr hq => ex_s_ireturn C hd hr hq) (fun _ _ _ hd hr hq => ex_s_return C hd hr hq) h4 n pc J0 lv st cs hI hn
theorem sl_in {cx : ex_K} {cc : ByteArray} {maxL : Nat} {ret : Option FieldType} {av : ex_V} {lv : ex_L} {cs : ex_C} {Q : ex_Q} (fuel : Nat) (I : Nat → Option (Nat → ex_L → ex_V → ex_C → Prop)) (h1 : av.all (fun w => w.category == 1) = true) (h2 : av.length ≤ maxL) (hl : ex_l0 av maxL = lv) (h : ex_wp ec_xt cx cc ret (fun pc => (I pc).map (fun J lv st cs => ∃ n, J n lv st cs)) Q fuel 0 lv [] cs) (h4 : ∀ pc J n lv st cs, I pc = some J → J n lv st cs → ex_wp ec_xt cx cc ret (fun pc' => (I pc').map (fun J' lv st cs => ∃ n', n' < n ∧ J' n' lv st cs)) Q fuel pc lv st cs) : ex_sl cx cc maxL ret av cs Q := by
  subst hl
  exact ⟨h1, h2, fuel, I, h, h4⟩

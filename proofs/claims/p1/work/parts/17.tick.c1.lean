theorem set_same {l : ex_C} {k : Nat} {x : va_E} (h : l[k]? = some x) : l.set k x = l := by
  apply List.ext_getElem?
  intro i
  by_cases hi : i = k
  · subst hi
    rw [List.getElem?_set_self (List.getElem?_eq_some_iff.mp h).1, h]
  · rw [List.getElem?_set_ne (Ne.symm hi)]
theorem cst_af (t u v ao : Int32) (af af' : Nat → Int32) : (cst t u v ao af).set 115 (.inl (0, 160, .inl af')) = cst t u v ao af' := by
  unfold cst
  rw [List.set_set]
theorem cst_ao (t u v ao ao' : Int32) (af : Nat → Int32) : (cst t u v ao af).set 76 (wo_m ao') = cst t u v ao' af := by
  unfold cst
  rw [List.set_comm _ _ (by decide : (115 : Nat) ≠ 76), List.set_set]
set_option maxRecDepth 100000 in
set_option maxHeartbeats 40000000 in
theorem lyz1 (u : Int32) (r n ao : Nat) (Q : ex_Q) (hr1 : ¬ 1000 ≤ r) (hrow : ∀ x, (cst 0 u 0 x (fun _ => 0))[r]? = some (.inl (0, n, .inl (fun _ => 0)))) (hb : ao + n ≤ 160) (h : Q none (cst 0 u 0 (nI (ao + n)) (fun _ => 0))) : ∀ k j, j + k = n → ∀ fuel, 25 * k + 10 ≤ fuel → ex_wp ec_xt cx_X10_lays cX10_lays none (fun _ => none) Q fuel 2 [some (.ref 76), some (.ref r), some (.int 1), some (.int (nI j))] [] (cst 0 u 0 (nI (ao + j)) (fun _ => 0)) := by
  intro k
  induction k with
  | zero =>
    intro j hj fuel hf
    obtain ⟨f, rfl⟩ : ∃ f, fuel = f + 5 := ⟨fuel - 5, by omega⟩
    have hjn : j = n := by omega
    subst hjn
    refine wq_iload_n dX10_lays_2 rfl rfl ?_
    refine go_wp rfl (wq_aload_n dX10_lays_3 rfl rfl ?_)
    refine go_wp rfl (wq_arraylength (v := nI j) dX10_lays_4 (hrow _) (Or.inl rfl) rfl rfl ?_)
    refine go_wp rfl (wq_icmp_ge_t (t := 55) dX10_lays_5 (by decide) (nI_le (Nat.le_refl j) (by omega)) ?_)
    exact go_wp rfl (wq_return dX10_lays_55 rfl h)
  | succ k ih =>
    intro j hj fuel hf
    obtain ⟨f, rfl⟩ : ∃ f, fuel = f + 25 := ⟨fuel - 25, by omega⟩
    have hjn : j < n := by omega
    have hvj : vp_in (nI j) n := vp_in_nI hjn (by omega)
    have hva : vp_in (nI (ao + j)) 160 := vp_in_nI (by omega) (by omega)
    have hcl : (nI (ao + j)).toNatClampNeg = ao + j := nI_clamp (by omega)
    refine wq_iload_n dX10_lays_2 rfl rfl ?_
    refine go_wp rfl (wq_aload_n dX10_lays_3 rfl rfl ?_)
    refine go_wp rfl (wq_arraylength (v := nI n) dX10_lays_4 (hrow _) (Or.inl rfl) rfl rfl ?_)
    refine go_wp rfl (wq_icmp_ge_f (t := 55) dX10_lays_5 (by decide) rfl (nI_ge hjn (by omega)) ?_)
    refine go_wp rfl (wq_iload_n dX10_lays_8 rfl rfl ?_)
    refine go_wp rfl (wq_if_eq_f (t := 27) dX10_lays_9 (by decide) rfl (by decide) ?_)
    refine go_wp rfl (wq_aload_n dX10_lays_12 rfl rfl ?_)
    refine go_wp rfl (wq_getfield (v := .ref 115) dX10_lays_13 fe_X10_144 rfl rfl rfl ?_)
    refine go_wp rfl (wq_aload_n dX10_lays_16 rfl rfl ?_)
    refine go_wp rfl (wq_getfield (v := .int (nI (ao + j))) dX10_lays_17 fe_X10_266 rfl rfl rfl ?_)
    refine go_wp rfl (wq_aload_n dX10_lays_20 rfl rfl ?_)
    refine go_wp rfl (wq_iload_n dX10_lays_21 rfl rfl ?_)
    refine go_wp rfl (wq_iaload (v := 0) dX10_lays_22 hr1 (hrow _) hvj rfl rfl ?_)
    refine go_wp rfl (wq_iastore (cs' := cst 0 u 0 (nI (ao + j)) (fun _ => 0)) dX10_lays_23 rfl hva (upd0 _) (cst_af _ _ _ _ _ _) rfl ?_)
    refine go_wp rfl (wq_goto (t := 39) dX10_lays_24 (by decide) ?_)
    refine go_wp rfl (wq_aload_n dX10_lays_39 rfl rfl ?_)
    refine go_wp rfl (wq_dup dX10_lays_40 rfl rfl ?_)
    refine go_wp rfl (wq_getfield (v := .int (nI (ao + j))) dX10_lays_41 fe_X10_266 rfl rfl rfl ?_)
    refine go_wp rfl (wq_iconst (v := 1) dX10_lays_44 (by decide) rfl ?_)
    refine go_wp rfl (wq_iadd (v := nI (ao + (j + 1))) dX10_lays_45 (nI_1 (ao + j)) rfl ?_)
    refine go_wp rfl (wq_putfield (fs' := [.int 0, .ref 77, .ref 78, .ref 79, .int 0, .ref 80, .ref 81, .ref 82, .ref 83, .int 0, .ref 84, .ref 85, .ref 86, .ref 87, .ref 88, .ref 89, .int 0, .ref 90, .ref 91, .ref 92, .ref 93, .ref 94, .ref 95, .ref 96, .ref 97, .ref 98, .ref 99, .ref 100, .ref 101, .int 0, .int 1000, .int 200, .int 300, .int 5000, .int 0, .ref 102, .ref 103, .ref 104, .ref 105, .int 0, .int 0, .ref 106, .ref 107, .ref 108, .ref 109, .int 0, .ref 110, .ref 111, .ref 112, .int 5, .int 400000, .int 0, .int 0, .ref 113, .ref 114, .ref 115, .int (nI (ao + (j + 1)))]) (cs' := cst 0 u 0 (nI (ao + (j + 1))) (fun _ => 0)) dX10_lays_46 fe_X10_266 rfl (Nat.le_of_ble_eq_true rfl) trivial rfl (cst_ao _ _ _ _ _ _) rfl ?_)
    refine go_wp rfl (wq_iinc (v := nI (j + 1)) (lv' := [some (.ref 76), some (.ref r), some (.int 1), some (.int (nI (j + 1)))]) dX10_lays_49 rfl ⟨Nat.le_of_ble_eq_true rfl, rfl⟩ (tk_inc j) rfl rfl ?_)
    refine go_wp rfl (wq_goto (t := 2) dX10_lays_52 (by decide) ?_)
    exact go_wp rfl (ih (j + 1) (by omega) _ (by omega))
set_option maxRecDepth 100000 in
set_option maxHeartbeats 40000000 in
theorem ly1_0 (u : Int32) (Q : ex_Q) (h : Q none (cst 0 u 0 24 (fun _ => 0))) : sp_X10_lays [.ref 76, .ref 77, .int 1] (cst 0 u 0 0 (fun _ => 0)) Q := by
  refine sp_in (lv := [some (.ref 76), some (.ref 77), some (.int 1), none]) rfl (Nat.le_of_ble_eq_true rfl) rfl ?_
  refine wq_iconst (v := 0) dX10_lays_0 (by decide) rfl ?_
  refine go_wp rfl (wq_istore_n (lv' := [some (.ref 76), some (.ref 77), some (.int 1), some (.int 0)]) dX10_lays_1 ⟨Nat.le_of_ble_eq_true rfl, rfl⟩ rfl rfl ?_)
  exact go_wp rfl (lyz1 u 77 24 0 Q (by decide) (fun _ => rfl) (by decide) h 24 0 (by decide) _ (by decide))
set_option maxRecDepth 100000 in
set_option maxHeartbeats 40000000 in
theorem ly1_1 (u : Int32) (Q : ex_Q) (h : Q none (cst 0 u 0 30 (fun _ => 0))) : sp_X10_lays [.ref 76, .ref 78, .int 1] (cst 0 u 0 24 (fun _ => 0)) Q := by
  refine sp_in (lv := [some (.ref 76), some (.ref 78), some (.int 1), none]) rfl (Nat.le_of_ble_eq_true rfl) rfl ?_
  refine wq_iconst (v := 0) dX10_lays_0 (by decide) rfl ?_
  refine go_wp rfl (wq_istore_n (lv' := [some (.ref 76), some (.ref 78), some (.int 1), some (.int 0)]) dX10_lays_1 ⟨Nat.le_of_ble_eq_true rfl, rfl⟩ rfl rfl ?_)
  exact go_wp rfl (lyz1 u 78 6 24 Q (by decide) (fun _ => rfl) (by decide) h 6 0 (by decide) _ (by decide))
set_option maxRecDepth 100000 in
set_option maxHeartbeats 40000000 in
theorem ly1_2 (u : Int32) (Q : ex_Q) (h : Q none (cst 0 u 0 38 (fun _ => 0))) : sp_X10_lays [.ref 76, .ref 82, .int 1] (cst 0 u 0 30 (fun _ => 0)) Q := by
  refine sp_in (lv := [some (.ref 76), some (.ref 82), some (.int 1), none]) rfl (Nat.le_of_ble_eq_true rfl) rfl ?_
  refine wq_iconst (v := 0) dX10_lays_0 (by decide) rfl ?_
  refine go_wp rfl (wq_istore_n (lv' := [some (.ref 76), some (.ref 82), some (.int 1), some (.int 0)]) dX10_lays_1 ⟨Nat.le_of_ble_eq_true rfl, rfl⟩ rfl rfl ?_)
  exact go_wp rfl (lyz1 u 82 8 30 Q (by decide) (fun _ => rfl) (by decide) h 8 0 (by decide) _ (by decide))
set_option maxRecDepth 100000 in
set_option maxHeartbeats 40000000 in
theorem ly1_3 (u : Int32) (Q : ex_Q) (h : Q none (cst 0 u 0 44 (fun _ => 0))) : sp_X10_lays [.ref 76, .ref 83, .int 1] (cst 0 u 0 38 (fun _ => 0)) Q := by
  refine sp_in (lv := [some (.ref 76), some (.ref 83), some (.int 1), none]) rfl (Nat.le_of_ble_eq_true rfl) rfl ?_
  refine wq_iconst (v := 0) dX10_lays_0 (by decide) rfl ?_
  refine go_wp rfl (wq_istore_n (lv' := [some (.ref 76), some (.ref 83), some (.int 1), some (.int 0)]) dX10_lays_1 ⟨Nat.le_of_ble_eq_true rfl, rfl⟩ rfl rfl ?_)
  exact go_wp rfl (lyz1 u 83 6 38 Q (by decide) (fun _ => rfl) (by decide) h 6 0 (by decide) _ (by decide))
set_option maxRecDepth 100000 in
set_option maxHeartbeats 40000000 in
theorem ly1_4 (u : Int32) (Q : ex_Q) (h : Q none (cst 0 u 0 50 (fun _ => 0))) : sp_X10_lays [.ref 76, .ref 84, .int 1] (cst 0 u 0 44 (fun _ => 0)) Q := by
  refine sp_in (lv := [some (.ref 76), some (.ref 84), some (.int 1), none]) rfl (Nat.le_of_ble_eq_true rfl) rfl ?_
  refine wq_iconst (v := 0) dX10_lays_0 (by decide) rfl ?_
  refine go_wp rfl (wq_istore_n (lv' := [some (.ref 76), some (.ref 84), some (.int 1), some (.int 0)]) dX10_lays_1 ⟨Nat.le_of_ble_eq_true rfl, rfl⟩ rfl rfl ?_)
  exact go_wp rfl (lyz1 u 84 6 44 Q (by decide) (fun _ => rfl) (by decide) h 6 0 (by decide) _ (by decide))
set_option maxRecDepth 100000 in
set_option maxHeartbeats 40000000 in
theorem ly1_5 (u : Int32) (Q : ex_Q) (h : Q none (cst 0 u 0 56 (fun _ => 0))) : sp_X10_lays [.ref 76, .ref 85, .int 1] (cst 0 u 0 50 (fun _ => 0)) Q := by
  refine sp_in (lv := [some (.ref 76), some (.ref 85), some (.int 1), none]) rfl (Nat.le_of_ble_eq_true rfl) rfl ?_
  refine wq_iconst (v := 0) dX10_lays_0 (by decide) rfl ?_
  refine go_wp rfl (wq_istore_n (lv' := [some (.ref 76), some (.ref 85), some (.int 1), some (.int 0)]) dX10_lays_1 ⟨Nat.le_of_ble_eq_true rfl, rfl⟩ rfl rfl ?_)
  exact go_wp rfl (lyz1 u 85 6 50 Q (by decide) (fun _ => rfl) (by decide) h 6 0 (by decide) _ (by decide))
set_option maxRecDepth 100000 in
set_option maxHeartbeats 40000000 in
theorem ly1_6 (u : Int32) (Q : ex_Q) (h : Q none (cst 0 u 0 62 (fun _ => 0))) : sp_X10_lays [.ref 76, .ref 86, .int 1] (cst 0 u 0 56 (fun _ => 0)) Q := by
  refine sp_in (lv := [some (.ref 76), some (.ref 86), some (.int 1), none]) rfl (Nat.le_of_ble_eq_true rfl) rfl ?_
  refine wq_iconst (v := 0) dX10_lays_0 (by decide) rfl ?_
  refine go_wp rfl (wq_istore_n (lv' := [some (.ref 76), some (.ref 86), some (.int 1), some (.int 0)]) dX10_lays_1 ⟨Nat.le_of_ble_eq_true rfl, rfl⟩ rfl rfl ?_)
  exact go_wp rfl (lyz1 u 86 6 56 Q (by decide) (fun _ => rfl) (by decide) h 6 0 (by decide) _ (by decide))
set_option maxRecDepth 100000 in
set_option maxHeartbeats 40000000 in
theorem ly1_7 (u : Int32) (Q : ex_Q) (h : Q none (cst 0 u 0 68 (fun _ => 0))) : sp_X10_lays [.ref 76, .ref 87, .int 1] (cst 0 u 0 62 (fun _ => 0)) Q := by
  refine sp_in (lv := [some (.ref 76), some (.ref 87), some (.int 1), none]) rfl (Nat.le_of_ble_eq_true rfl) rfl ?_
  refine wq_iconst (v := 0) dX10_lays_0 (by decide) rfl ?_
  refine go_wp rfl (wq_istore_n (lv' := [some (.ref 76), some (.ref 87), some (.int 1), some (.int 0)]) dX10_lays_1 ⟨Nat.le_of_ble_eq_true rfl, rfl⟩ rfl rfl ?_)
  exact go_wp rfl (lyz1 u 87 6 62 Q (by decide) (fun _ => rfl) (by decide) h 6 0 (by decide) _ (by decide))
set_option maxRecDepth 100000 in
set_option maxHeartbeats 40000000 in
theorem ly1_8 (u : Int32) (Q : ex_Q) (h : Q none (cst 0 u 0 74 (fun _ => 0))) : sp_X10_lays [.ref 76, .ref 88, .int 1] (cst 0 u 0 68 (fun _ => 0)) Q := by
  refine sp_in (lv := [some (.ref 76), some (.ref 88), some (.int 1), none]) rfl (Nat.le_of_ble_eq_true rfl) rfl ?_
  refine wq_iconst (v := 0) dX10_lays_0 (by decide) rfl ?_
  refine go_wp rfl (wq_istore_n (lv' := [some (.ref 76), some (.ref 88), some (.int 1), some (.int 0)]) dX10_lays_1 ⟨Nat.le_of_ble_eq_true rfl, rfl⟩ rfl rfl ?_)
  exact go_wp rfl (lyz1 u 88 6 68 Q (by decide) (fun _ => rfl) (by decide) h 6 0 (by decide) _ (by decide))
set_option maxRecDepth 100000 in
set_option maxHeartbeats 40000000 in
theorem ly1_9 (u : Int32) (Q : ex_Q) (h : Q none (cst 0 u 0 80 (fun _ => 0))) : sp_X10_lays [.ref 76, .ref 89, .int 1] (cst 0 u 0 74 (fun _ => 0)) Q := by
  refine sp_in (lv := [some (.ref 76), some (.ref 89), some (.int 1), none]) rfl (Nat.le_of_ble_eq_true rfl) rfl ?_
  refine wq_iconst (v := 0) dX10_lays_0 (by decide) rfl ?_
  refine go_wp rfl (wq_istore_n (lv' := [some (.ref 76), some (.ref 89), some (.int 1), some (.int 0)]) dX10_lays_1 ⟨Nat.le_of_ble_eq_true rfl, rfl⟩ rfl rfl ?_)
  exact go_wp rfl (lyz1 u 89 6 74 Q (by decide) (fun _ => rfl) (by decide) h 6 0 (by decide) _ (by decide))
set_option maxRecDepth 100000 in
set_option maxHeartbeats 40000000 in
theorem ly1_10 (u : Int32) (Q : ex_Q) (h : Q none (cst 0 u 0 90 (fun _ => 0))) : sp_X10_lays [.ref 76, .ref 96, .int 1] (cst 0 u 0 80 (fun _ => 0)) Q := by
  refine sp_in (lv := [some (.ref 76), some (.ref 96), some (.int 1), none]) rfl (Nat.le_of_ble_eq_true rfl) rfl ?_
  refine wq_iconst (v := 0) dX10_lays_0 (by decide) rfl ?_
  refine go_wp rfl (wq_istore_n (lv' := [some (.ref 76), some (.ref 96), some (.int 1), some (.int 0)]) dX10_lays_1 ⟨Nat.le_of_ble_eq_true rfl, rfl⟩ rfl rfl ?_)
  exact go_wp rfl (lyz1 u 96 10 80 Q (by decide) (fun _ => rfl) (by decide) h 10 0 (by decide) _ (by decide))
set_option maxRecDepth 100000 in
set_option maxHeartbeats 40000000 in
theorem ly1_11 (u : Int32) (Q : ex_Q) (h : Q none (cst 0 u 0 100 (fun _ => 0))) : sp_X10_lays [.ref 76, .ref 97, .int 1] (cst 0 u 0 90 (fun _ => 0)) Q := by
  refine sp_in (lv := [some (.ref 76), some (.ref 97), some (.int 1), none]) rfl (Nat.le_of_ble_eq_true rfl) rfl ?_
  refine wq_iconst (v := 0) dX10_lays_0 (by decide) rfl ?_
  refine go_wp rfl (wq_istore_n (lv' := [some (.ref 76), some (.ref 97), some (.int 1), some (.int 0)]) dX10_lays_1 ⟨Nat.le_of_ble_eq_true rfl, rfl⟩ rfl rfl ?_)
  exact go_wp rfl (lyz1 u 97 10 90 Q (by decide) (fun _ => rfl) (by decide) h 10 0 (by decide) _ (by decide))
set_option maxRecDepth 100000 in
set_option maxHeartbeats 40000000 in
theorem ly1_12 (u : Int32) (Q : ex_Q) (h : Q none (cst 0 u 0 110 (fun _ => 0))) : sp_X10_lays [.ref 76, .ref 98, .int 1] (cst 0 u 0 100 (fun _ => 0)) Q := by
  refine sp_in (lv := [some (.ref 76), some (.ref 98), some (.int 1), none]) rfl (Nat.le_of_ble_eq_true rfl) rfl ?_
  refine wq_iconst (v := 0) dX10_lays_0 (by decide) rfl ?_
  refine go_wp rfl (wq_istore_n (lv' := [some (.ref 76), some (.ref 98), some (.int 1), some (.int 0)]) dX10_lays_1 ⟨Nat.le_of_ble_eq_true rfl, rfl⟩ rfl rfl ?_)
  exact go_wp rfl (lyz1 u 98 10 100 Q (by decide) (fun _ => rfl) (by decide) h 10 0 (by decide) _ (by decide))
set_option maxRecDepth 100000 in
set_option maxHeartbeats 40000000 in
theorem ly1_13 (u : Int32) (Q : ex_Q) (h : Q none (cst 0 u 0 120 (fun _ => 0))) : sp_X10_lays [.ref 76, .ref 99, .int 1] (cst 0 u 0 110 (fun _ => 0)) Q := by
  refine sp_in (lv := [some (.ref 76), some (.ref 99), some (.int 1), none]) rfl (Nat.le_of_ble_eq_true rfl) rfl ?_
  refine wq_iconst (v := 0) dX10_lays_0 (by decide) rfl ?_
  refine go_wp rfl (wq_istore_n (lv' := [some (.ref 76), some (.ref 99), some (.int 1), some (.int 0)]) dX10_lays_1 ⟨Nat.le_of_ble_eq_true rfl, rfl⟩ rfl rfl ?_)
  exact go_wp rfl (lyz1 u 99 10 110 Q (by decide) (fun _ => rfl) (by decide) h 10 0 (by decide) _ (by decide))
set_option maxRecDepth 100000 in
set_option maxHeartbeats 40000000 in
theorem ly1_14 (u : Int32) (Q : ex_Q) (h : Q none (cst 0 u 0 126 (fun _ => 0))) : sp_X10_lays [.ref 76, .ref 100, .int 1] (cst 0 u 0 120 (fun _ => 0)) Q := by
  refine sp_in (lv := [some (.ref 76), some (.ref 100), some (.int 1), none]) rfl (Nat.le_of_ble_eq_true rfl) rfl ?_
  refine wq_iconst (v := 0) dX10_lays_0 (by decide) rfl ?_
  refine go_wp rfl (wq_istore_n (lv' := [some (.ref 76), some (.ref 100), some (.int 1), some (.int 0)]) dX10_lays_1 ⟨Nat.le_of_ble_eq_true rfl, rfl⟩ rfl rfl ?_)
  exact go_wp rfl (lyz1 u 100 6 120 Q (by decide) (fun _ => rfl) (by decide) h 6 0 (by decide) _ (by decide))
def af_1 : Nat → Int32 := upd (upd (upd (upd (upd (upd (upd (upd (upd (fun _ => 0) 128 (-1)) 129 0) 130 0) 131 (-1)) 132 0) 133 0) 134 (-1)) 135 0) 136 0
set_option maxRecDepth 100000 in
set_option maxHeartbeats 40000000 in
theorem ly1_15 (u : Int32) (Q : ex_Q) (h : Q none (cst 0 u 0 137 (af_1))) : sp_X10_lays [.ref 76, .ref 101, .int 1] (cst 0 u 0 126 (fun _ => 0)) Q := by
  refine sp_in (lv := [some (.ref 76), some (.ref 101), some (.int 1), none]) rfl (Nat.le_of_ble_eq_true rfl) rfl ?_
  refine wq_iconst (v := 0) dX10_lays_0 (by decide) rfl ?_
  refine go_wp rfl (wq_istore_n (lv' := [some (.ref 76), some (.ref 101), some (.int 1), some (.int 0)]) dX10_lays_1 ⟨Nat.le_of_ble_eq_true rfl, rfl⟩ rfl rfl ?_)
  refine go_wp rfl (wq_iload_n dX10_lays_2 rfl rfl ?_)
  refine go_wp rfl (wq_aload_n dX10_lays_3 rfl rfl ?_)
  refine go_wp rfl (wq_arraylength (v := 11) dX10_lays_4 rfl (Or.inl rfl) (by decide) rfl ?_)
  refine go_wp rfl (wq_icmp_ge_f (t := 55) dX10_lays_5 (by decide) rfl (by decide) ?_)
  refine go_wp rfl (wq_iload_n dX10_lays_8 rfl rfl ?_)
  refine go_wp rfl (wq_if_eq_f (t := 27) dX10_lays_9 (by decide) rfl (by decide) ?_)
  refine go_wp rfl (wq_aload_n dX10_lays_12 rfl rfl ?_)
  refine go_wp rfl (wq_getfield (v := .ref 115) dX10_lays_13 fe_X10_144 rfl rfl rfl ?_)
  refine go_wp rfl (wq_aload_n dX10_lays_16 rfl rfl ?_)
  refine go_wp rfl (wq_getfield (v := .int 126) dX10_lays_17 fe_X10_266 rfl rfl rfl ?_)
  refine go_wp rfl (wq_aload_n dX10_lays_20 rfl rfl ?_)
  refine go_wp rfl (wq_iload_n dX10_lays_21 rfl rfl ?_)
  refine go_wp rfl (wq_iaload (v := 0) dX10_lays_22 (by decide) rfl (vp_dec (by decide)) rfl rfl ?_)
  refine go_wp rfl (wq_iastore (cs' := cst 0 u 0 126 (fun _ => 0)) dX10_lays_23 rfl (vp_dec (by decide)) (upd0 _) (cst_af _ _ _ _ _ _) rfl ?_)
  refine go_wp rfl (wq_goto (t := 39) dX10_lays_24 (by decide) ?_)
  refine go_wp rfl (wq_aload_n dX10_lays_39 rfl rfl ?_)
  refine go_wp rfl (wq_dup dX10_lays_40 rfl rfl ?_)
  refine go_wp rfl (wq_getfield (v := .int 126) dX10_lays_41 fe_X10_266 rfl rfl rfl ?_)
  refine go_wp rfl (wq_iconst (v := 1) dX10_lays_44 (by decide) rfl ?_)
  refine go_wp rfl (wq_iadd (v := 127) dX10_lays_45 (by decide) rfl ?_)
  refine go_wp rfl (wq_putfield (fs' := [.int 0, .ref 77, .ref 78, .ref 79, .int 0, .ref 80, .ref 81, .ref 82, .ref 83, .int 0, .ref 84, .ref 85, .ref 86, .ref 87, .ref 88, .ref 89, .int 0, .ref 90, .ref 91, .ref 92, .ref 93, .ref 94, .ref 95, .ref 96, .ref 97, .ref 98, .ref 99, .ref 100, .ref 101, .int 0, .int 1000, .int 200, .int 300, .int 5000, .int 0, .ref 102, .ref 103, .ref 104, .ref 105, .int 0, .int 0, .ref 106, .ref 107, .ref 108, .ref 109, .int 0, .ref 110, .ref 111, .ref 112, .int 5, .int 400000, .int 0, .int 0, .ref 113, .ref 114, .ref 115, .int 127]) (cs' := cst 0 u 0 127 (fun _ => 0)) dX10_lays_46 fe_X10_266 rfl (Nat.le_of_ble_eq_true rfl) trivial rfl (cst_ao _ _ _ _ _ _) rfl ?_)
  refine go_wp rfl (wq_iinc (v := 1) (lv' := [some (.ref 76), some (.ref 101), some (.int 1), some (.int 1)]) dX10_lays_49 rfl ⟨Nat.le_of_ble_eq_true rfl, rfl⟩ (by decide) rfl rfl ?_)
  refine go_wp rfl (wq_goto (t := 2) dX10_lays_52 (by decide) ?_)
  refine go_wp rfl (wq_iload_n dX10_lays_2 rfl rfl ?_)
  refine go_wp rfl (wq_aload_n dX10_lays_3 rfl rfl ?_)
  refine go_wp rfl (wq_arraylength (v := 11) dX10_lays_4 rfl (Or.inl rfl) (by decide) rfl ?_)
  refine go_wp rfl (wq_icmp_ge_f (t := 55) dX10_lays_5 (by decide) rfl (by decide) ?_)
  refine go_wp rfl (wq_iload_n dX10_lays_8 rfl rfl ?_)
  refine go_wp rfl (wq_if_eq_f (t := 27) dX10_lays_9 (by decide) rfl (by decide) ?_)
  refine go_wp rfl (wq_aload_n dX10_lays_12 rfl rfl ?_)
  refine go_wp rfl (wq_getfield (v := .ref 115) dX10_lays_13 fe_X10_144 rfl rfl rfl ?_)
  refine go_wp rfl (wq_aload_n dX10_lays_16 rfl rfl ?_)
  refine go_wp rfl (wq_getfield (v := .int 127) dX10_lays_17 fe_X10_266 rfl rfl rfl ?_)
  refine go_wp rfl (wq_aload_n dX10_lays_20 rfl rfl ?_)
  refine go_wp rfl (wq_iload_n dX10_lays_21 rfl rfl ?_)
  refine go_wp rfl (wq_iaload (v := 0) dX10_lays_22 (by decide) rfl (vp_dec (by decide)) rfl rfl ?_)
  refine go_wp rfl (wq_iastore (cs' := cst 0 u 0 127 (fun _ => 0)) dX10_lays_23 rfl (vp_dec (by decide)) (upd0 _) (cst_af _ _ _ _ _ _) rfl ?_)
  refine go_wp rfl (wq_goto (t := 39) dX10_lays_24 (by decide) ?_)
  refine go_wp rfl (wq_aload_n dX10_lays_39 rfl rfl ?_)
  refine go_wp rfl (wq_dup dX10_lays_40 rfl rfl ?_)
  refine go_wp rfl (wq_getfield (v := .int 127) dX10_lays_41 fe_X10_266 rfl rfl rfl ?_)
  refine go_wp rfl (wq_iconst (v := 1) dX10_lays_44 (by decide) rfl ?_)
  refine go_wp rfl (wq_iadd (v := 128) dX10_lays_45 (by decide) rfl ?_)
  refine go_wp rfl (wq_putfield (fs' := [.int 0, .ref 77, .ref 78, .ref 79, .int 0, .ref 80, .ref 81, .ref 82, .ref 83, .int 0, .ref 84, .ref 85, .ref 86, .ref 87, .ref 88, .ref 89, .int 0, .ref 90, .ref 91, .ref 92, .ref 93, .ref 94, .ref 95, .ref 96, .ref 97, .ref 98, .ref 99, .ref 100, .ref 101, .int 0, .int 1000, .int 200, .int 300, .int 5000, .int 0, .ref 102, .ref 103, .ref 104, .ref 105, .int 0, .int 0, .ref 106, .ref 107, .ref 108, .ref 109, .int 0, .ref 110, .ref 111, .ref 112, .int 5, .int 400000, .int 0, .int 0, .ref 113, .ref 114, .ref 115, .int 128]) (cs' := cst 0 u 0 128 (fun _ => 0)) dX10_lays_46 fe_X10_266 rfl (Nat.le_of_ble_eq_true rfl) trivial rfl (cst_ao _ _ _ _ _ _) rfl ?_)
  refine go_wp rfl (wq_iinc (v := 2) (lv' := [some (.ref 76), some (.ref 101), some (.int 1), some (.int 2)]) dX10_lays_49 rfl ⟨Nat.le_of_ble_eq_true rfl, rfl⟩ (by decide) rfl rfl ?_)
  refine go_wp rfl (wq_goto (t := 2) dX10_lays_52 (by decide) ?_)
  refine go_wp rfl (wq_iload_n dX10_lays_2 rfl rfl ?_)
  refine go_wp rfl (wq_aload_n dX10_lays_3 rfl rfl ?_)
  refine go_wp rfl (wq_arraylength (v := 11) dX10_lays_4 rfl (Or.inl rfl) (by decide) rfl ?_)
  refine go_wp rfl (wq_icmp_ge_f (t := 55) dX10_lays_5 (by decide) rfl (by decide) ?_)
  refine go_wp rfl (wq_iload_n dX10_lays_8 rfl rfl ?_)
  refine go_wp rfl (wq_if_eq_f (t := 27) dX10_lays_9 (by decide) rfl (by decide) ?_)
  refine go_wp rfl (wq_aload_n dX10_lays_12 rfl rfl ?_)
  refine go_wp rfl (wq_getfield (v := .ref 115) dX10_lays_13 fe_X10_144 rfl rfl rfl ?_)
  refine go_wp rfl (wq_aload_n dX10_lays_16 rfl rfl ?_)
  refine go_wp rfl (wq_getfield (v := .int 128) dX10_lays_17 fe_X10_266 rfl rfl rfl ?_)
  refine go_wp rfl (wq_aload_n dX10_lays_20 rfl rfl ?_)
  refine go_wp rfl (wq_iload_n dX10_lays_21 rfl rfl ?_)
  refine go_wp rfl (wq_iaload (v := (-1)) dX10_lays_22 (by decide) rfl (vp_dec (by decide)) rfl rfl ?_)
  refine go_wp rfl (wq_iastore (cs' := cst 0 u 0 128 (upd (fun _ => 0) 128 (-1))) dX10_lays_23 rfl (vp_dec (by decide)) rfl (cst_af _ _ _ _ _ _) rfl ?_)
  refine go_wp rfl (wq_goto (t := 39) dX10_lays_24 (by decide) ?_)
  refine go_wp rfl (wq_aload_n dX10_lays_39 rfl rfl ?_)
  refine go_wp rfl (wq_dup dX10_lays_40 rfl rfl ?_)
  refine go_wp rfl (wq_getfield (v := .int 128) dX10_lays_41 fe_X10_266 rfl rfl rfl ?_)
  refine go_wp rfl (wq_iconst (v := 1) dX10_lays_44 (by decide) rfl ?_)
  refine go_wp rfl (wq_iadd (v := 129) dX10_lays_45 (by decide) rfl ?_)
  refine go_wp rfl (wq_putfield (fs' := [.int 0, .ref 77, .ref 78, .ref 79, .int 0, .ref 80, .ref 81, .ref 82, .ref 83, .int 0, .ref 84, .ref 85, .ref 86, .ref 87, .ref 88, .ref 89, .int 0, .ref 90, .ref 91, .ref 92, .ref 93, .ref 94, .ref 95, .ref 96, .ref 97, .ref 98, .ref 99, .ref 100, .ref 101, .int 0, .int 1000, .int 200, .int 300, .int 5000, .int 0, .ref 102, .ref 103, .ref 104, .ref 105, .int 0, .int 0, .ref 106, .ref 107, .ref 108, .ref 109, .int 0, .ref 110, .ref 111, .ref 112, .int 5, .int 400000, .int 0, .int 0, .ref 113, .ref 114, .ref 115, .int 129]) (cs' := cst 0 u 0 129 (upd (fun _ => 0) 128 (-1))) dX10_lays_46 fe_X10_266 rfl (Nat.le_of_ble_eq_true rfl) trivial rfl (cst_ao _ _ _ _ _ _) rfl ?_)
  refine go_wp rfl (wq_iinc (v := 3) (lv' := [some (.ref 76), some (.ref 101), some (.int 1), some (.int 3)]) dX10_lays_49 rfl ⟨Nat.le_of_ble_eq_true rfl, rfl⟩ (by decide) rfl rfl ?_)
  refine go_wp rfl (wq_goto (t := 2) dX10_lays_52 (by decide) ?_)
  refine go_wp rfl (wq_iload_n dX10_lays_2 rfl rfl ?_)
  refine go_wp rfl (wq_aload_n dX10_lays_3 rfl rfl ?_)
  refine go_wp rfl (wq_arraylength (v := 11) dX10_lays_4 rfl (Or.inl rfl) (by decide) rfl ?_)
  refine go_wp rfl (wq_icmp_ge_f (t := 55) dX10_lays_5 (by decide) rfl (by decide) ?_)
  refine go_wp rfl (wq_iload_n dX10_lays_8 rfl rfl ?_)
  refine go_wp rfl (wq_if_eq_f (t := 27) dX10_lays_9 (by decide) rfl (by decide) ?_)
  refine go_wp rfl (wq_aload_n dX10_lays_12 rfl rfl ?_)
  refine go_wp rfl (wq_getfield (v := .ref 115) dX10_lays_13 fe_X10_144 rfl rfl rfl ?_)
  refine go_wp rfl (wq_aload_n dX10_lays_16 rfl rfl ?_)
  refine go_wp rfl (wq_getfield (v := .int 129) dX10_lays_17 fe_X10_266 rfl rfl rfl ?_)
  refine go_wp rfl (wq_aload_n dX10_lays_20 rfl rfl ?_)
  refine go_wp rfl (wq_iload_n dX10_lays_21 rfl rfl ?_)
  refine go_wp rfl (wq_iaload (v := 0) dX10_lays_22 (by decide) rfl (vp_dec (by decide)) rfl rfl ?_)
  refine go_wp rfl (wq_iastore (cs' := cst 0 u 0 129 (upd (upd (fun _ => 0) 128 (-1)) 129 0)) dX10_lays_23 rfl (vp_dec (by decide)) rfl (cst_af _ _ _ _ _ _) rfl ?_)
  refine go_wp rfl (wq_goto (t := 39) dX10_lays_24 (by decide) ?_)
  refine go_wp rfl (wq_aload_n dX10_lays_39 rfl rfl ?_)
  refine go_wp rfl (wq_dup dX10_lays_40 rfl rfl ?_)
  refine go_wp rfl (wq_getfield (v := .int 129) dX10_lays_41 fe_X10_266 rfl rfl rfl ?_)
  refine go_wp rfl (wq_iconst (v := 1) dX10_lays_44 (by decide) rfl ?_)
  refine go_wp rfl (wq_iadd (v := 130) dX10_lays_45 (by decide) rfl ?_)
  refine go_wp rfl (wq_putfield (fs' := [.int 0, .ref 77, .ref 78, .ref 79, .int 0, .ref 80, .ref 81, .ref 82, .ref 83, .int 0, .ref 84, .ref 85, .ref 86, .ref 87, .ref 88, .ref 89, .int 0, .ref 90, .ref 91, .ref 92, .ref 93, .ref 94, .ref 95, .ref 96, .ref 97, .ref 98, .ref 99, .ref 100, .ref 101, .int 0, .int 1000, .int 200, .int 300, .int 5000, .int 0, .ref 102, .ref 103, .ref 104, .ref 105, .int 0, .int 0, .ref 106, .ref 107, .ref 108, .ref 109, .int 0, .ref 110, .ref 111, .ref 112, .int 5, .int 400000, .int 0, .int 0, .ref 113, .ref 114, .ref 115, .int 130]) (cs' := cst 0 u 0 130 (upd (upd (fun _ => 0) 128 (-1)) 129 0)) dX10_lays_46 fe_X10_266 rfl (Nat.le_of_ble_eq_true rfl) trivial rfl (cst_ao _ _ _ _ _ _) rfl ?_)
  refine go_wp rfl (wq_iinc (v := 4) (lv' := [some (.ref 76), some (.ref 101), some (.int 1), some (.int 4)]) dX10_lays_49 rfl ⟨Nat.le_of_ble_eq_true rfl, rfl⟩ (by decide) rfl rfl ?_)
  refine go_wp rfl (wq_goto (t := 2) dX10_lays_52 (by decide) ?_)
  refine go_wp rfl (wq_iload_n dX10_lays_2 rfl rfl ?_)
  refine go_wp rfl (wq_aload_n dX10_lays_3 rfl rfl ?_)
  refine go_wp rfl (wq_arraylength (v := 11) dX10_lays_4 rfl (Or.inl rfl) (by decide) rfl ?_)
  refine go_wp rfl (wq_icmp_ge_f (t := 55) dX10_lays_5 (by decide) rfl (by decide) ?_)
  refine go_wp rfl (wq_iload_n dX10_lays_8 rfl rfl ?_)
  refine go_wp rfl (wq_if_eq_f (t := 27) dX10_lays_9 (by decide) rfl (by decide) ?_)
  refine go_wp rfl (wq_aload_n dX10_lays_12 rfl rfl ?_)
  refine go_wp rfl (wq_getfield (v := .ref 115) dX10_lays_13 fe_X10_144 rfl rfl rfl ?_)
  refine go_wp rfl (wq_aload_n dX10_lays_16 rfl rfl ?_)
  refine go_wp rfl (wq_getfield (v := .int 130) dX10_lays_17 fe_X10_266 rfl rfl rfl ?_)
  refine go_wp rfl (wq_aload_n dX10_lays_20 rfl rfl ?_)
  refine go_wp rfl (wq_iload_n dX10_lays_21 rfl rfl ?_)
  refine go_wp rfl (wq_iaload (v := 0) dX10_lays_22 (by decide) rfl (vp_dec (by decide)) rfl rfl ?_)
  refine go_wp rfl (wq_iastore (cs' := cst 0 u 0 130 (upd (upd (upd (fun _ => 0) 128 (-1)) 129 0) 130 0)) dX10_lays_23 rfl (vp_dec (by decide)) rfl (cst_af _ _ _ _ _ _) rfl ?_)
  refine go_wp rfl (wq_goto (t := 39) dX10_lays_24 (by decide) ?_)
  refine go_wp rfl (wq_aload_n dX10_lays_39 rfl rfl ?_)
  refine go_wp rfl (wq_dup dX10_lays_40 rfl rfl ?_)
  refine go_wp rfl (wq_getfield (v := .int 130) dX10_lays_41 fe_X10_266 rfl rfl rfl ?_)
  refine go_wp rfl (wq_iconst (v := 1) dX10_lays_44 (by decide) rfl ?_)
  refine go_wp rfl (wq_iadd (v := 131) dX10_lays_45 (by decide) rfl ?_)
  refine go_wp rfl (wq_putfield (fs' := [.int 0, .ref 77, .ref 78, .ref 79, .int 0, .ref 80, .ref 81, .ref 82, .ref 83, .int 0, .ref 84, .ref 85, .ref 86, .ref 87, .ref 88, .ref 89, .int 0, .ref 90, .ref 91, .ref 92, .ref 93, .ref 94, .ref 95, .ref 96, .ref 97, .ref 98, .ref 99, .ref 100, .ref 101, .int 0, .int 1000, .int 200, .int 300, .int 5000, .int 0, .ref 102, .ref 103, .ref 104, .ref 105, .int 0, .int 0, .ref 106, .ref 107, .ref 108, .ref 109, .int 0, .ref 110, .ref 111, .ref 112, .int 5, .int 400000, .int 0, .int 0, .ref 113, .ref 114, .ref 115, .int 131]) (cs' := cst 0 u 0 131 (upd (upd (upd (fun _ => 0) 128 (-1)) 129 0) 130 0)) dX10_lays_46 fe_X10_266 rfl (Nat.le_of_ble_eq_true rfl) trivial rfl (cst_ao _ _ _ _ _ _) rfl ?_)
  refine go_wp rfl (wq_iinc (v := 5) (lv' := [some (.ref 76), some (.ref 101), some (.int 1), some (.int 5)]) dX10_lays_49 rfl ⟨Nat.le_of_ble_eq_true rfl, rfl⟩ (by decide) rfl rfl ?_)
  refine go_wp rfl (wq_goto (t := 2) dX10_lays_52 (by decide) ?_)
  refine go_wp rfl (wq_iload_n dX10_lays_2 rfl rfl ?_)
  refine go_wp rfl (wq_aload_n dX10_lays_3 rfl rfl ?_)
  refine go_wp rfl (wq_arraylength (v := 11) dX10_lays_4 rfl (Or.inl rfl) (by decide) rfl ?_)
  refine go_wp rfl (wq_icmp_ge_f (t := 55) dX10_lays_5 (by decide) rfl (by decide) ?_)
  refine go_wp rfl (wq_iload_n dX10_lays_8 rfl rfl ?_)
  refine go_wp rfl (wq_if_eq_f (t := 27) dX10_lays_9 (by decide) rfl (by decide) ?_)
  refine go_wp rfl (wq_aload_n dX10_lays_12 rfl rfl ?_)
  refine go_wp rfl (wq_getfield (v := .ref 115) dX10_lays_13 fe_X10_144 rfl rfl rfl ?_)
  refine go_wp rfl (wq_aload_n dX10_lays_16 rfl rfl ?_)
  refine go_wp rfl (wq_getfield (v := .int 131) dX10_lays_17 fe_X10_266 rfl rfl rfl ?_)
  refine go_wp rfl (wq_aload_n dX10_lays_20 rfl rfl ?_)
  refine go_wp rfl (wq_iload_n dX10_lays_21 rfl rfl ?_)
  refine go_wp rfl (wq_iaload (v := (-1)) dX10_lays_22 (by decide) rfl (vp_dec (by decide)) rfl rfl ?_)
  refine go_wp rfl (wq_iastore (cs' := cst 0 u 0 131 (upd (upd (upd (upd (fun _ => 0) 128 (-1)) 129 0) 130 0) 131 (-1))) dX10_lays_23 rfl (vp_dec (by decide)) rfl (cst_af _ _ _ _ _ _) rfl ?_)
  refine go_wp rfl (wq_goto (t := 39) dX10_lays_24 (by decide) ?_)
  refine go_wp rfl (wq_aload_n dX10_lays_39 rfl rfl ?_)
  refine go_wp rfl (wq_dup dX10_lays_40 rfl rfl ?_)
  refine go_wp rfl (wq_getfield (v := .int 131) dX10_lays_41 fe_X10_266 rfl rfl rfl ?_)
  refine go_wp rfl (wq_iconst (v := 1) dX10_lays_44 (by decide) rfl ?_)
  refine go_wp rfl (wq_iadd (v := 132) dX10_lays_45 (by decide) rfl ?_)
  refine go_wp rfl (wq_putfield (fs' := [.int 0, .ref 77, .ref 78, .ref 79, .int 0, .ref 80, .ref 81, .ref 82, .ref 83, .int 0, .ref 84, .ref 85, .ref 86, .ref 87, .ref 88, .ref 89, .int 0, .ref 90, .ref 91, .ref 92, .ref 93, .ref 94, .ref 95, .ref 96, .ref 97, .ref 98, .ref 99, .ref 100, .ref 101, .int 0, .int 1000, .int 200, .int 300, .int 5000, .int 0, .ref 102, .ref 103, .ref 104, .ref 105, .int 0, .int 0, .ref 106, .ref 107, .ref 108, .ref 109, .int 0, .ref 110, .ref 111, .ref 112, .int 5, .int 400000, .int 0, .int 0, .ref 113, .ref 114, .ref 115, .int 132]) (cs' := cst 0 u 0 132 (upd (upd (upd (upd (fun _ => 0) 128 (-1)) 129 0) 130 0) 131 (-1))) dX10_lays_46 fe_X10_266 rfl (Nat.le_of_ble_eq_true rfl) trivial rfl (cst_ao _ _ _ _ _ _) rfl ?_)
  refine go_wp rfl (wq_iinc (v := 6) (lv' := [some (.ref 76), some (.ref 101), some (.int 1), some (.int 6)]) dX10_lays_49 rfl ⟨Nat.le_of_ble_eq_true rfl, rfl⟩ (by decide) rfl rfl ?_)
  refine go_wp rfl (wq_goto (t := 2) dX10_lays_52 (by decide) ?_)
  refine go_wp rfl (wq_iload_n dX10_lays_2 rfl rfl ?_)
  refine go_wp rfl (wq_aload_n dX10_lays_3 rfl rfl ?_)
  refine go_wp rfl (wq_arraylength (v := 11) dX10_lays_4 rfl (Or.inl rfl) (by decide) rfl ?_)
  refine go_wp rfl (wq_icmp_ge_f (t := 55) dX10_lays_5 (by decide) rfl (by decide) ?_)
  refine go_wp rfl (wq_iload_n dX10_lays_8 rfl rfl ?_)
  refine go_wp rfl (wq_if_eq_f (t := 27) dX10_lays_9 (by decide) rfl (by decide) ?_)
  refine go_wp rfl (wq_aload_n dX10_lays_12 rfl rfl ?_)
  refine go_wp rfl (wq_getfield (v := .ref 115) dX10_lays_13 fe_X10_144 rfl rfl rfl ?_)
  refine go_wp rfl (wq_aload_n dX10_lays_16 rfl rfl ?_)
  refine go_wp rfl (wq_getfield (v := .int 132) dX10_lays_17 fe_X10_266 rfl rfl rfl ?_)
  refine go_wp rfl (wq_aload_n dX10_lays_20 rfl rfl ?_)
  refine go_wp rfl (wq_iload_n dX10_lays_21 rfl rfl ?_)
  refine go_wp rfl (wq_iaload (v := 0) dX10_lays_22 (by decide) rfl (vp_dec (by decide)) rfl rfl ?_)
  refine go_wp rfl (wq_iastore (cs' := cst 0 u 0 132 (upd (upd (upd (upd (upd (fun _ => 0) 128 (-1)) 129 0) 130 0) 131 (-1)) 132 0)) dX10_lays_23 rfl (vp_dec (by decide)) rfl (cst_af _ _ _ _ _ _) rfl ?_)
  refine go_wp rfl (wq_goto (t := 39) dX10_lays_24 (by decide) ?_)
  refine go_wp rfl (wq_aload_n dX10_lays_39 rfl rfl ?_)
  refine go_wp rfl (wq_dup dX10_lays_40 rfl rfl ?_)
  refine go_wp rfl (wq_getfield (v := .int 132) dX10_lays_41 fe_X10_266 rfl rfl rfl ?_)
  refine go_wp rfl (wq_iconst (v := 1) dX10_lays_44 (by decide) rfl ?_)
  refine go_wp rfl (wq_iadd (v := 133) dX10_lays_45 (by decide) rfl ?_)
  refine go_wp rfl (wq_putfield (fs' := [.int 0, .ref 77, .ref 78, .ref 79, .int 0, .ref 80, .ref 81, .ref 82, .ref 83, .int 0, .ref 84, .ref 85, .ref 86, .ref 87, .ref 88, .ref 89, .int 0, .ref 90, .ref 91, .ref 92, .ref 93, .ref 94, .ref 95, .ref 96, .ref 97, .ref 98, .ref 99, .ref 100, .ref 101, .int 0, .int 1000, .int 200, .int 300, .int 5000, .int 0, .ref 102, .ref 103, .ref 104, .ref 105, .int 0, .int 0, .ref 106, .ref 107, .ref 108, .ref 109, .int 0, .ref 110, .ref 111, .ref 112, .int 5, .int 400000, .int 0, .int 0, .ref 113, .ref 114, .ref 115, .int 133]) (cs' := cst 0 u 0 133 (upd (upd (upd (upd (upd (fun _ => 0) 128 (-1)) 129 0) 130 0) 131 (-1)) 132 0)) dX10_lays_46 fe_X10_266 rfl (Nat.le_of_ble_eq_true rfl) trivial rfl (cst_ao _ _ _ _ _ _) rfl ?_)
  refine go_wp rfl (wq_iinc (v := 7) (lv' := [some (.ref 76), some (.ref 101), some (.int 1), some (.int 7)]) dX10_lays_49 rfl ⟨Nat.le_of_ble_eq_true rfl, rfl⟩ (by decide) rfl rfl ?_)
  refine go_wp rfl (wq_goto (t := 2) dX10_lays_52 (by decide) ?_)
  refine go_wp rfl (wq_iload_n dX10_lays_2 rfl rfl ?_)
  refine go_wp rfl (wq_aload_n dX10_lays_3 rfl rfl ?_)
  refine go_wp rfl (wq_arraylength (v := 11) dX10_lays_4 rfl (Or.inl rfl) (by decide) rfl ?_)
  refine go_wp rfl (wq_icmp_ge_f (t := 55) dX10_lays_5 (by decide) rfl (by decide) ?_)
  refine go_wp rfl (wq_iload_n dX10_lays_8 rfl rfl ?_)
  refine go_wp rfl (wq_if_eq_f (t := 27) dX10_lays_9 (by decide) rfl (by decide) ?_)
  refine go_wp rfl (wq_aload_n dX10_lays_12 rfl rfl ?_)
  refine go_wp rfl (wq_getfield (v := .ref 115) dX10_lays_13 fe_X10_144 rfl rfl rfl ?_)
  refine go_wp rfl (wq_aload_n dX10_lays_16 rfl rfl ?_)
  refine go_wp rfl (wq_getfield (v := .int 133) dX10_lays_17 fe_X10_266 rfl rfl rfl ?_)
  refine go_wp rfl (wq_aload_n dX10_lays_20 rfl rfl ?_)
  refine go_wp rfl (wq_iload_n dX10_lays_21 rfl rfl ?_)
  refine go_wp rfl (wq_iaload (v := 0) dX10_lays_22 (by decide) rfl (vp_dec (by decide)) rfl rfl ?_)
  refine go_wp rfl (wq_iastore (cs' := cst 0 u 0 133 (upd (upd (upd (upd (upd (upd (fun _ => 0) 128 (-1)) 129 0) 130 0) 131 (-1)) 132 0) 133 0)) dX10_lays_23 rfl (vp_dec (by decide)) rfl (cst_af _ _ _ _ _ _) rfl ?_)
  refine go_wp rfl (wq_goto (t := 39) dX10_lays_24 (by decide) ?_)
  refine go_wp rfl (wq_aload_n dX10_lays_39 rfl rfl ?_)
  refine go_wp rfl (wq_dup dX10_lays_40 rfl rfl ?_)
  refine go_wp rfl (wq_getfield (v := .int 133) dX10_lays_41 fe_X10_266 rfl rfl rfl ?_)
  refine go_wp rfl (wq_iconst (v := 1) dX10_lays_44 (by decide) rfl ?_)
  refine go_wp rfl (wq_iadd (v := 134) dX10_lays_45 (by decide) rfl ?_)
  refine go_wp rfl (wq_putfield (fs' := [.int 0, .ref 77, .ref 78, .ref 79, .int 0, .ref 80, .ref 81, .ref 82, .ref 83, .int 0, .ref 84, .ref 85, .ref 86, .ref 87, .ref 88, .ref 89, .int 0, .ref 90, .ref 91, .ref 92, .ref 93, .ref 94, .ref 95, .ref 96, .ref 97, .ref 98, .ref 99, .ref 100, .ref 101, .int 0, .int 1000, .int 200, .int 300, .int 5000, .int 0, .ref 102, .ref 103, .ref 104, .ref 105, .int 0, .int 0, .ref 106, .ref 107, .ref 108, .ref 109, .int 0, .ref 110, .ref 111, .ref 112, .int 5, .int 400000, .int 0, .int 0, .ref 113, .ref 114, .ref 115, .int 134]) (cs' := cst 0 u 0 134 (upd (upd (upd (upd (upd (upd (fun _ => 0) 128 (-1)) 129 0) 130 0) 131 (-1)) 132 0) 133 0)) dX10_lays_46 fe_X10_266 rfl (Nat.le_of_ble_eq_true rfl) trivial rfl (cst_ao _ _ _ _ _ _) rfl ?_)
  refine go_wp rfl (wq_iinc (v := 8) (lv' := [some (.ref 76), some (.ref 101), some (.int 1), some (.int 8)]) dX10_lays_49 rfl ⟨Nat.le_of_ble_eq_true rfl, rfl⟩ (by decide) rfl rfl ?_)
  refine go_wp rfl (wq_goto (t := 2) dX10_lays_52 (by decide) ?_)
  refine go_wp rfl (wq_iload_n dX10_lays_2 rfl rfl ?_)
  refine go_wp rfl (wq_aload_n dX10_lays_3 rfl rfl ?_)
  refine go_wp rfl (wq_arraylength (v := 11) dX10_lays_4 rfl (Or.inl rfl) (by decide) rfl ?_)
  refine go_wp rfl (wq_icmp_ge_f (t := 55) dX10_lays_5 (by decide) rfl (by decide) ?_)
  refine go_wp rfl (wq_iload_n dX10_lays_8 rfl rfl ?_)
  refine go_wp rfl (wq_if_eq_f (t := 27) dX10_lays_9 (by decide) rfl (by decide) ?_)
  refine go_wp rfl (wq_aload_n dX10_lays_12 rfl rfl ?_)
  refine go_wp rfl (wq_getfield (v := .ref 115) dX10_lays_13 fe_X10_144 rfl rfl rfl ?_)
  refine go_wp rfl (wq_aload_n dX10_lays_16 rfl rfl ?_)
  refine go_wp rfl (wq_getfield (v := .int 134) dX10_lays_17 fe_X10_266 rfl rfl rfl ?_)
  refine go_wp rfl (wq_aload_n dX10_lays_20 rfl rfl ?_)
  refine go_wp rfl (wq_iload_n dX10_lays_21 rfl rfl ?_)
  refine go_wp rfl (wq_iaload (v := (-1)) dX10_lays_22 (by decide) rfl (vp_dec (by decide)) rfl rfl ?_)
  refine go_wp rfl (wq_iastore (cs' := cst 0 u 0 134 (upd (upd (upd (upd (upd (upd (upd (fun _ => 0) 128 (-1)) 129 0) 130 0) 131 (-1)) 132 0) 133 0) 134 (-1))) dX10_lays_23 rfl (vp_dec (by decide)) rfl (cst_af _ _ _ _ _ _) rfl ?_)
  refine go_wp rfl (wq_goto (t := 39) dX10_lays_24 (by decide) ?_)
  refine go_wp rfl (wq_aload_n dX10_lays_39 rfl rfl ?_)
  refine go_wp rfl (wq_dup dX10_lays_40 rfl rfl ?_)
  refine go_wp rfl (wq_getfield (v := .int 134) dX10_lays_41 fe_X10_266 rfl rfl rfl ?_)
  refine go_wp rfl (wq_iconst (v := 1) dX10_lays_44 (by decide) rfl ?_)
  refine go_wp rfl (wq_iadd (v := 135) dX10_lays_45 (by decide) rfl ?_)
  refine go_wp rfl (wq_putfield (fs' := [.int 0, .ref 77, .ref 78, .ref 79, .int 0, .ref 80, .ref 81, .ref 82, .ref 83, .int 0, .ref 84, .ref 85, .ref 86, .ref 87, .ref 88, .ref 89, .int 0, .ref 90, .ref 91, .ref 92, .ref 93, .ref 94, .ref 95, .ref 96, .ref 97, .ref 98, .ref 99, .ref 100, .ref 101, .int 0, .int 1000, .int 200, .int 300, .int 5000, .int 0, .ref 102, .ref 103, .ref 104, .ref 105, .int 0, .int 0, .ref 106, .ref 107, .ref 108, .ref 109, .int 0, .ref 110, .ref 111, .ref 112, .int 5, .int 400000, .int 0, .int 0, .ref 113, .ref 114, .ref 115, .int 135]) (cs' := cst 0 u 0 135 (upd (upd (upd (upd (upd (upd (upd (fun _ => 0) 128 (-1)) 129 0) 130 0) 131 (-1)) 132 0) 133 0) 134 (-1))) dX10_lays_46 fe_X10_266 rfl (Nat.le_of_ble_eq_true rfl) trivial rfl (cst_ao _ _ _ _ _ _) rfl ?_)
  refine go_wp rfl (wq_iinc (v := 9) (lv' := [some (.ref 76), some (.ref 101), some (.int 1), some (.int 9)]) dX10_lays_49 rfl ⟨Nat.le_of_ble_eq_true rfl, rfl⟩ (by decide) rfl rfl ?_)
  refine go_wp rfl (wq_goto (t := 2) dX10_lays_52 (by decide) ?_)
  refine go_wp rfl (wq_iload_n dX10_lays_2 rfl rfl ?_)
  refine go_wp rfl (wq_aload_n dX10_lays_3 rfl rfl ?_)
  refine go_wp rfl (wq_arraylength (v := 11) dX10_lays_4 rfl (Or.inl rfl) (by decide) rfl ?_)
  refine go_wp rfl (wq_icmp_ge_f (t := 55) dX10_lays_5 (by decide) rfl (by decide) ?_)
  refine go_wp rfl (wq_iload_n dX10_lays_8 rfl rfl ?_)
  refine go_wp rfl (wq_if_eq_f (t := 27) dX10_lays_9 (by decide) rfl (by decide) ?_)
  refine go_wp rfl (wq_aload_n dX10_lays_12 rfl rfl ?_)
  refine go_wp rfl (wq_getfield (v := .ref 115) dX10_lays_13 fe_X10_144 rfl rfl rfl ?_)
  refine go_wp rfl (wq_aload_n dX10_lays_16 rfl rfl ?_)
  refine go_wp rfl (wq_getfield (v := .int 135) dX10_lays_17 fe_X10_266 rfl rfl rfl ?_)
  refine go_wp rfl (wq_aload_n dX10_lays_20 rfl rfl ?_)
  refine go_wp rfl (wq_iload_n dX10_lays_21 rfl rfl ?_)
  refine go_wp rfl (wq_iaload (v := 0) dX10_lays_22 (by decide) rfl (vp_dec (by decide)) rfl rfl ?_)
  refine go_wp rfl (wq_iastore (cs' := cst 0 u 0 135 (upd (upd (upd (upd (upd (upd (upd (upd (fun _ => 0) 128 (-1)) 129 0) 130 0) 131 (-1)) 132 0) 133 0) 134 (-1)) 135 0)) dX10_lays_23 rfl (vp_dec (by decide)) rfl (cst_af _ _ _ _ _ _) rfl ?_)
  refine go_wp rfl (wq_goto (t := 39) dX10_lays_24 (by decide) ?_)
  refine go_wp rfl (wq_aload_n dX10_lays_39 rfl rfl ?_)
  refine go_wp rfl (wq_dup dX10_lays_40 rfl rfl ?_)
  refine go_wp rfl (wq_getfield (v := .int 135) dX10_lays_41 fe_X10_266 rfl rfl rfl ?_)
  refine go_wp rfl (wq_iconst (v := 1) dX10_lays_44 (by decide) rfl ?_)
  refine go_wp rfl (wq_iadd (v := 136) dX10_lays_45 (by decide) rfl ?_)
  refine go_wp rfl (wq_putfield (fs' := [.int 0, .ref 77, .ref 78, .ref 79, .int 0, .ref 80, .ref 81, .ref 82, .ref 83, .int 0, .ref 84, .ref 85, .ref 86, .ref 87, .ref 88, .ref 89, .int 0, .ref 90, .ref 91, .ref 92, .ref 93, .ref 94, .ref 95, .ref 96, .ref 97, .ref 98, .ref 99, .ref 100, .ref 101, .int 0, .int 1000, .int 200, .int 300, .int 5000, .int 0, .ref 102, .ref 103, .ref 104, .ref 105, .int 0, .int 0, .ref 106, .ref 107, .ref 108, .ref 109, .int 0, .ref 110, .ref 111, .ref 112, .int 5, .int 400000, .int 0, .int 0, .ref 113, .ref 114, .ref 115, .int 136]) (cs' := cst 0 u 0 136 (upd (upd (upd (upd (upd (upd (upd (upd (fun _ => 0) 128 (-1)) 129 0) 130 0) 131 (-1)) 132 0) 133 0) 134 (-1)) 135 0)) dX10_lays_46 fe_X10_266 rfl (Nat.le_of_ble_eq_true rfl) trivial rfl (cst_ao _ _ _ _ _ _) rfl ?_)
  refine go_wp rfl (wq_iinc (v := 10) (lv' := [some (.ref 76), some (.ref 101), some (.int 1), some (.int 10)]) dX10_lays_49 rfl ⟨Nat.le_of_ble_eq_true rfl, rfl⟩ (by decide) rfl rfl ?_)
  refine go_wp rfl (wq_goto (t := 2) dX10_lays_52 (by decide) ?_)
  refine go_wp rfl (wq_iload_n dX10_lays_2 rfl rfl ?_)
  refine go_wp rfl (wq_aload_n dX10_lays_3 rfl rfl ?_)
  refine go_wp rfl (wq_arraylength (v := 11) dX10_lays_4 rfl (Or.inl rfl) (by decide) rfl ?_)
  refine go_wp rfl (wq_icmp_ge_f (t := 55) dX10_lays_5 (by decide) rfl (by decide) ?_)
  refine go_wp rfl (wq_iload_n dX10_lays_8 rfl rfl ?_)
  refine go_wp rfl (wq_if_eq_f (t := 27) dX10_lays_9 (by decide) rfl (by decide) ?_)
  refine go_wp rfl (wq_aload_n dX10_lays_12 rfl rfl ?_)
  refine go_wp rfl (wq_getfield (v := .ref 115) dX10_lays_13 fe_X10_144 rfl rfl rfl ?_)
  refine go_wp rfl (wq_aload_n dX10_lays_16 rfl rfl ?_)
  refine go_wp rfl (wq_getfield (v := .int 136) dX10_lays_17 fe_X10_266 rfl rfl rfl ?_)
  refine go_wp rfl (wq_aload_n dX10_lays_20 rfl rfl ?_)
  refine go_wp rfl (wq_iload_n dX10_lays_21 rfl rfl ?_)
  refine go_wp rfl (wq_iaload (v := 0) dX10_lays_22 (by decide) rfl (vp_dec (by decide)) rfl rfl ?_)
  refine go_wp rfl (wq_iastore (cs' := cst 0 u 0 136 (upd (upd (upd (upd (upd (upd (upd (upd (upd (fun _ => 0) 128 (-1)) 129 0) 130 0) 131 (-1)) 132 0) 133 0) 134 (-1)) 135 0) 136 0)) dX10_lays_23 rfl (vp_dec (by decide)) rfl (cst_af _ _ _ _ _ _) rfl ?_)
  refine go_wp rfl (wq_goto (t := 39) dX10_lays_24 (by decide) ?_)
  refine go_wp rfl (wq_aload_n dX10_lays_39 rfl rfl ?_)
  refine go_wp rfl (wq_dup dX10_lays_40 rfl rfl ?_)
  refine go_wp rfl (wq_getfield (v := .int 136) dX10_lays_41 fe_X10_266 rfl rfl rfl ?_)
  refine go_wp rfl (wq_iconst (v := 1) dX10_lays_44 (by decide) rfl ?_)
  refine go_wp rfl (wq_iadd (v := 137) dX10_lays_45 (by decide) rfl ?_)
  refine go_wp rfl (wq_putfield (fs' := [.int 0, .ref 77, .ref 78, .ref 79, .int 0, .ref 80, .ref 81, .ref 82, .ref 83, .int 0, .ref 84, .ref 85, .ref 86, .ref 87, .ref 88, .ref 89, .int 0, .ref 90, .ref 91, .ref 92, .ref 93, .ref 94, .ref 95, .ref 96, .ref 97, .ref 98, .ref 99, .ref 100, .ref 101, .int 0, .int 1000, .int 200, .int 300, .int 5000, .int 0, .ref 102, .ref 103, .ref 104, .ref 105, .int 0, .int 0, .ref 106, .ref 107, .ref 108, .ref 109, .int 0, .ref 110, .ref 111, .ref 112, .int 5, .int 400000, .int 0, .int 0, .ref 113, .ref 114, .ref 115, .int 137]) (cs' := cst 0 u 0 137 (upd (upd (upd (upd (upd (upd (upd (upd (upd (fun _ => 0) 128 (-1)) 129 0) 130 0) 131 (-1)) 132 0) 133 0) 134 (-1)) 135 0) 136 0)) dX10_lays_46 fe_X10_266 rfl (Nat.le_of_ble_eq_true rfl) trivial rfl (cst_ao _ _ _ _ _ _) rfl ?_)
  refine go_wp rfl (wq_iinc (v := 11) (lv' := [some (.ref 76), some (.ref 101), some (.int 1), some (.int 11)]) dX10_lays_49 rfl ⟨Nat.le_of_ble_eq_true rfl, rfl⟩ (by decide) rfl rfl ?_)
  refine go_wp rfl (wq_goto (t := 2) dX10_lays_52 (by decide) ?_)
  refine go_wp rfl (wq_iload_n dX10_lays_2 rfl rfl ?_)
  refine go_wp rfl (wq_aload_n dX10_lays_3 rfl rfl ?_)
  refine go_wp rfl (wq_arraylength (v := 11) dX10_lays_4 rfl (Or.inl rfl) (by decide) rfl ?_)
  refine go_wp rfl (wq_icmp_ge_t (t := 55) dX10_lays_5 (by decide) (by decide) ?_)
  refine go_wp rfl (wq_return dX10_lays_55 rfl ?_)
  exact h

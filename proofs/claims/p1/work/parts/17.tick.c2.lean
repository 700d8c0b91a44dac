set_option maxRecDepth 100000 in
set_option maxHeartbeats 40000000 in
theorem lyz0 (u v : Int32) (r n ao : Nat) (Q : ex_Q) (hrow : ∀ x, (cst 0 u v x af_1)[r]? = some (.inl (0, n, .inl (fun _ => 0)))) (hset : ∀ x, (cst 0 u v x af_1).set r (.inl (0, n, .inl (fun _ => 0))) = cst 0 u v x af_1) (hz : ∀ j, j < n → af_1 (ao + j) = 0) (hb : ao + n ≤ 160) (h : Q none (cst 0 u v (nI (ao + n)) af_1)) : ∀ k j, j + k = n → ∀ fuel, 25 * k + 10 ≤ fuel → ex_wp ec_xt cx_X10_lays cX10_lays none (fun _ => none) Q fuel 2 [some (.ref 76), some (.ref r), some (.int 0), some (.int (nI j))] [] (cst 0 u v (nI (ao + j)) af_1) := by
  intro k
  induction k with
  | zero =>
    intro j hj fuel hf
    obtain ⟨f, rfl⟩ : ∃ f, fuel = f + 5 := ⟨fuel - 5, by omega⟩
    have hjn : j = n := by omega
    subst hjn
    refine wq_iload_n dX10_lays_2 rfl rfl ?_
    refine go_wp rfl (wq_aload_n dX10_lays_3 rfl rfl ?_)
    refine go_wp rfl (wq_arraylength (v := nI j) dX10_lays_4 (hrow _) (Or.inl rfl) rfl rfl ?_)
    refine go_wp rfl (wq_icmp_ge_t (t := 55) dX10_lays_5 (by decide) (nI_le (Nat.le_refl j) (by omega)) ?_)
    exact go_wp rfl (wq_return dX10_lays_55 rfl h)
  | succ k ih =>
    intro j hj fuel hf
    obtain ⟨f, rfl⟩ : ∃ f, fuel = f + 25 := ⟨fuel - 25, by omega⟩
    have hjn : j < n := by omega
    have hvj : vp_in (nI j) n := vp_in_nI hjn (by omega)
    have hva : vp_in (nI (ao + j)) 160 := vp_in_nI (by omega) (by omega)
    have hcl : (nI (ao + j)).toNatClampNeg = ao + j := nI_clamp (by omega)
    refine wq_iload_n dX10_lays_2 rfl rfl ?_
    refine go_wp rfl (wq_aload_n dX10_lays_3 rfl rfl ?_)
    refine go_wp rfl (wq_arraylength (v := nI n) dX10_lays_4 (hrow _) (Or.inl rfl) rfl rfl ?_)
    refine go_wp rfl (wq_icmp_ge_f (t := 55) dX10_lays_5 (by decide) rfl (nI_ge hjn (by omega)) ?_)
    refine go_wp rfl (wq_iload_n dX10_lays_8 rfl rfl ?_)
    refine go_wp rfl (wq_if_eq_t (t := 27) dX10_lays_9 (by decide) rfl ?_)
    refine go_wp rfl (wq_aload_n dX10_lays_27 rfl rfl ?_)
    refine go_wp rfl (wq_iload_n dX10_lays_28 rfl rfl ?_)
    refine go_wp rfl (wq_aload_n dX10_lays_29 rfl rfl ?_)
    refine go_wp rfl (wq_getfield (v := .ref 115) dX10_lays_30 fe_X10_144 rfl rfl rfl ?_)
    refine go_wp rfl (wq_aload_n dX10_lays_33 rfl rfl ?_)
    refine go_wp rfl (wq_getfield (v := .int (nI (ao + j))) dX10_lays_34 fe_X10_266 rfl rfl rfl ?_)
    refine go_wp rfl (wq_iaload (v := 0) dX10_lays_37 (by decide) rfl hva (by rw [hcl]; exact hz j hjn) rfl ?_)
    refine go_wp rfl (wq_iastore (cs' := cst 0 u v (nI (ao + j)) af_1) dX10_lays_38 (hrow _) hvj (upd0 _) (hset _) rfl ?_)
    refine go_wp rfl (wq_aload_n dX10_lays_39 rfl rfl ?_)
    refine go_wp rfl (wq_dup dX10_lays_40 rfl rfl ?_)
    refine go_wp rfl (wq_getfield (v := .int (nI (ao + j))) dX10_lays_41 fe_X10_266 rfl rfl rfl ?_)
    refine go_wp rfl (wq_iconst (v := 1) dX10_lays_44 (by decide) rfl ?_)
    refine go_wp rfl (wq_iadd (v := nI (ao + (j + 1))) dX10_lays_45 (nI_1 (ao + j)) rfl ?_)
    refine go_wp rfl (wq_putfield (fs' := [.int 0, .ref 77, .ref 78, .ref 79, .int 0, .ref 80, .ref 81, .ref 82, .ref 83, .int 0, .ref 84, .ref 85, .ref 86, .ref 87, .ref 88, .ref 89, .int 0, .ref 90, .ref 91, .ref 92, .ref 93, .ref 94, .ref 95, .ref 96, .ref 97, .ref 98, .ref 99, .ref 100, .ref 101, .int 0, .int 1000, .int 200, .int 300, .int 5000, .int 0, .ref 102, .ref 103, .ref 104, .ref 105, .int 0, .int 0, .ref 106, .ref 107, .ref 108, .ref 109, .int 0, .ref 110, .ref 111, .ref 112, .int 5, .int 400000, .int 0, .int 0, .ref 113, .ref 114, .ref 115, .int (nI (ao + (j + 1)))]) (cs' := cst 0 u v (nI (ao + (j + 1))) af_1) dX10_lays_46 fe_X10_266 rfl (Nat.le_of_ble_eq_true rfl) trivial rfl (cst_ao _ _ _ _ _ _) rfl ?_)
    refine go_wp rfl (wq_iinc (v := nI (j + 1)) (lv' := [some (.ref 76), some (.ref r), some (.int 0), some (.int (nI (j + 1)))]) dX10_lays_49 rfl ⟨Nat.le_of_ble_eq_true rfl, rfl⟩ (tk_inc j) rfl rfl ?_)
    refine go_wp rfl (wq_goto (t := 2) dX10_lays_52 (by decide) ?_)
    exact go_wp rfl (ih (j + 1) (by omega) _ (by omega))
set_option maxRecDepth 100000 in
set_option maxHeartbeats 40000000 in
theorem ly0_0 (u v : Int32) (Q : ex_Q) (h : Q none (cst 0 u v 24 af_1)) : sp_X10_lays [.ref 76, .ref 77, .int 0] (cst 0 u v 0 af_1) Q := by
  refine sp_in (lv := [some (.ref 76), some (.ref 77), some (.int 0), none]) rfl (Nat.le_of_ble_eq_true rfl) rfl ?_
  refine wq_iconst (v := 0) dX10_lays_0 (by decide) rfl ?_
  refine go_wp rfl (wq_istore_n (lv' := [some (.ref 76), some (.ref 77), some (.int 0), some (.int 0)]) dX10_lays_1 ⟨Nat.le_of_ble_eq_true rfl, rfl⟩ rfl rfl ?_)
  exact go_wp rfl (lyz0 u v 77 24 0 Q (fun _ => rfl) (fun _ => set_same rfl) (by decide +kernel) (by decide) h 24 0 (by decide) _ (by decide))
set_option maxRecDepth 100000 in
set_option maxHeartbeats 40000000 in
theorem ly0_1 (u v : Int32) (Q : ex_Q) (h : Q none (cst 0 u v 30 af_1)) : sp_X10_lays [.ref 76, .ref 78, .int 0] (cst 0 u v 24 af_1) Q := by
  refine sp_in (lv := [some (.ref 76), some (.ref 78), some (.int 0), none]) rfl (Nat.le_of_ble_eq_true rfl) rfl ?_
  refine wq_iconst (v := 0) dX10_lays_0 (by decide) rfl ?_
  refine go_wp rfl (wq_istore_n (lv' := [some (.ref 76), some (.ref 78), some (.int 0), some (.int 0)]) dX10_lays_1 ⟨Nat.le_of_ble_eq_true rfl, rfl⟩ rfl rfl ?_)
  exact go_wp rfl (lyz0 u v 78 6 24 Q (fun _ => rfl) (fun _ => set_same rfl) (by decide +kernel) (by decide) h 6 0 (by decide) _ (by decide))
set_option maxRecDepth 100000 in
set_option maxHeartbeats 40000000 in
theorem ly0_2 (u v : Int32) (Q : ex_Q) (h : Q none (cst 0 u v 38 af_1)) : sp_X10_lays [.ref 76, .ref 82, .int 0] (cst 0 u v 30 af_1) Q := by
  refine sp_in (lv := [some (.ref 76), some (.ref 82), some (.int 0), none]) rfl (Nat.le_of_ble_eq_true rfl) rfl ?_
  refine wq_iconst (v := 0) dX10_lays_0 (by decide) rfl ?_
  refine go_wp rfl (wq_istore_n (lv' := [some (.ref 76), some (.ref 82), some (.int 0), some (.int 0)]) dX10_lays_1 ⟨Nat.le_of_ble_eq_true rfl, rfl⟩ rfl rfl ?_)
  exact go_wp rfl (lyz0 u v 82 8 30 Q (fun _ => rfl) (fun _ => set_same rfl) (by decide +kernel) (by decide) h 8 0 (by decide) _ (by decide))
set_option maxRecDepth 100000 in
set_option maxHeartbeats 40000000 in
theorem ly0_3 (u v : Int32) (Q : ex_Q) (h : Q none (cst 0 u v 44 af_1)) : sp_X10_lays [.ref 76, .ref 83, .int 0] (cst 0 u v 38 af_1) Q := by
  refine sp_in (lv := [some (.ref 76), some (.ref 83), some (.int 0), none]) rfl (Nat.le_of_ble_eq_true rfl) rfl ?_
  refine wq_iconst (v := 0) dX10_lays_0 (by decide) rfl ?_
  refine go_wp rfl (wq_istore_n (lv' := [some (.ref 76), some (.ref 83), some (.int 0), some (.int 0)]) dX10_lays_1 ⟨Nat.le_of_ble_eq_true rfl, rfl⟩ rfl rfl ?_)
  exact go_wp rfl (lyz0 u v 83 6 38 Q (fun _ => rfl) (fun _ => set_same rfl) (by decide +kernel) (by decide) h 6 0 (by decide) _ (by decide))
set_option maxRecDepth 100000 in
set_option maxHeartbeats 40000000 in
theorem ly0_4 (u v : Int32) (Q : ex_Q) (h : Q none (cst 0 u v 50 af_1)) : sp_X10_lays [.ref 76, .ref 84, .int 0] (cst 0 u v 44 af_1) Q := by
  refine sp_in (lv := [some (.ref 76), some (.ref 84), some (.int 0), none]) rfl (Nat.le_of_ble_eq_true rfl) rfl ?_
  refine wq_iconst (v := 0) dX10_lays_0 (by decide) rfl ?_
  refine go_wp rfl (wq_istore_n (lv' := [some (.ref 76), some (.ref 84), some (.int 0), some (.int 0)]) dX10_lays_1 ⟨Nat.le_of_ble_eq_true rfl, rfl⟩ rfl rfl ?_)
  exact go_wp rfl (lyz0 u v 84 6 44 Q (fun _ => rfl) (fun _ => set_same rfl) (by decide +kernel) (by decide) h 6 0 (by decide) _ (by decide))
set_option maxRecDepth 100000 in
set_option maxHeartbeats 40000000 in
theorem ly0_5 (u v : Int32) (Q : ex_Q) (h : Q none (cst 0 u v 56 af_1)) : sp_X10_lays [.ref 76, .ref 85, .int 0] (cst 0 u v 50 af_1) Q := by
  refine sp_in (lv := [some (.ref 76), some (.ref 85), some (.int 0), none]) rfl (Nat.le_of_ble_eq_true rfl) rfl ?_
  refine wq_iconst (v := 0) dX10_lays_0 (by decide) rfl ?_
  refine go_wp rfl (wq_istore_n (lv' := [some (.ref 76), some (.ref 85), some (.int 0), some (.int 0)]) dX10_lays_1 ⟨Nat.le_of_ble_eq_true rfl, rfl⟩ rfl rfl ?_)
  exact go_wp rfl (lyz0 u v 85 6 50 Q (fun _ => rfl) (fun _ => set_same rfl) (by decide +kernel) (by decide) h 6 0 (by decide) _ (by decide))
set_option maxRecDepth 100000 in
set_option maxHeartbeats 40000000 in
theorem ly0_6 (u v : Int32) (Q : ex_Q) (h : Q none (cst 0 u v 62 af_1)) : sp_X10_lays [.ref 76, .ref 86, .int 0] (cst 0 u v 56 af_1) Q := by
  refine sp_in (lv := [some (.ref 76), some (.ref 86), some (.int 0), none]) rfl (Nat.le_of_ble_eq_true rfl) rfl ?_
  refine wq_iconst (v := 0) dX10_lays_0 (by decide) rfl ?_
  refine go_wp rfl (wq_istore_n (lv' := [some (.ref 76), some (.ref 86), some (.int 0), some (.int 0)]) dX10_lays_1 ⟨Nat.le_of_ble_eq_true rfl, rfl⟩ rfl rfl ?_)
  exact go_wp rfl (lyz0 u v 86 6 56 Q (fun _ => rfl) (fun _ => set_same rfl) (by decide +kernel) (by decide) h 6 0 (by decide) _ (by decide))
set_option maxRecDepth 100000 in
set_option maxHeartbeats 40000000 in
theorem ly0_7 (u v : Int32) (Q : ex_Q) (h : Q none (cst 0 u v 68 af_1)) : sp_X10_lays [.ref 76, .ref 87, .int 0] (cst 0 u v 62 af_1) Q := by
  refine sp_in (lv := [some (.ref 76), some (.ref 87), some (.int 0), none]) rfl (Nat.le_of_ble_eq_true rfl) rfl ?_
  refine wq_iconst (v := 0) dX10_lays_0 (by decide) rfl ?_
  refine go_wp rfl (wq_istore_n (lv' := [some (.ref 76), some (.ref 87), some (.int 0), some (.int 0)]) dX10_lays_1 ⟨Nat.le_of_ble_eq_true rfl, rfl⟩ rfl rfl ?_)
  exact go_wp rfl (lyz0 u v 87 6 62 Q (fun _ => rfl) (fun _ => set_same rfl) (by decide +kernel) (by decide) h 6 0 (by decide) _ (by decide))
set_option maxRecDepth 100000 in
set_option maxHeartbeats 40000000 in
theorem ly0_8 (u v : Int32) (Q : ex_Q) (h : Q none (cst 0 u v 74 af_1)) : sp_X10_lays [.ref 76, .ref 88, .int 0] (cst 0 u v 68 af_1) Q := by
  refine sp_in (lv := [some (.ref 76), some (.ref 88), some (.int 0), none]) rfl (Nat.le_of_ble_eq_true rfl) rfl ?_
  refine wq_iconst (v := 0) dX10_lays_0 (by decide) rfl ?_
  refine go_wp rfl (wq_istore_n (lv' := [some (.ref 76), some (.ref 88), some (.int 0), some (.int 0)]) dX10_lays_1 ⟨Nat.le_of_ble_eq_true rfl, rfl⟩ rfl rfl ?_)
  exact go_wp rfl (lyz0 u v 88 6 68 Q (fun _ => rfl) (fun _ => set_same rfl) (by decide +kernel) (by decide) h 6 0 (by decide) _ (by decide))
set_option maxRecDepth 100000 in
set_option maxHeartbeats 40000000 in
theorem ly0_9 (u v : Int32) (Q : ex_Q) (h : Q none (cst 0 u v 80 af_1)) : sp_X10_lays [.ref 76, .ref 89, .int 0] (cst 0 u v 74 af_1) Q := by
  refine sp_in (lv := [some (.ref 76), some (.ref 89), some (.int 0), none]) rfl (Nat.le_of_ble_eq_true rfl) rfl ?_
  refine wq_iconst (v := 0) dX10_lays_0 (by decide) rfl ?_
  refine go_wp rfl (wq_istore_n (lv' := [some (.ref 76), some (.ref 89), some (.int 0), some (.int 0)]) dX10_lays_1 ⟨Nat.le_of_ble_eq_true rfl, rfl⟩ rfl rfl ?_)
  exact go_wp rfl (lyz0 u v 89 6 74 Q (fun _ => rfl) (fun _ => set_same rfl) (by decide +kernel) (by decide) h 6 0 (by decide) _ (by decide))
set_option maxRecDepth 100000 in
set_option maxHeartbeats 40000000 in
theorem ly0_10 (u v : Int32) (Q : ex_Q) (h : Q none (cst 0 u v 90 af_1)) : sp_X10_lays [.ref 76, .ref 96, .int 0] (cst 0 u v 80 af_1) Q := by
  refine sp_in (lv := [some (.ref 76), some (.ref 96), some (.int 0), none]) rfl (Nat.le_of_ble_eq_true rfl) rfl ?_
  refine wq_iconst (v := 0) dX10_lays_0 (by decide) rfl ?_
  refine go_wp rfl (wq_istore_n (lv' := [some (.ref 76), some (.ref 96), some (.int 0), some (.int 0)]) dX10_lays_1 ⟨Nat.le_of_ble_eq_true rfl, rfl⟩ rfl rfl ?_)
  exact go_wp rfl (lyz0 u v 96 10 80 Q (fun _ => rfl) (fun _ => set_same rfl) (by decide +kernel) (by decide) h 10 0 (by decide) _ (by decide))
set_option maxRecDepth 100000 in
set_option maxHeartbeats 40000000 in
theorem ly0_11 (u v : Int32) (Q : ex_Q) (h : Q none (cst 0 u v 100 af_1)) : sp_X10_lays [.ref 76, .ref 97, .int 0] (cst 0 u v 90 af_1) Q := by
  refine sp_in (lv := [some (.ref 76), some (.ref 97), some (.int 0), none]) rfl (Nat.le_of_ble_eq_true rfl) rfl ?_
  refine wq_iconst (v := 0) dX10_lays_0 (by decide) rfl ?_
  refine go_wp rfl (wq_istore_n (lv' := [some (.ref 76), some (.ref 97), some (.int 0), some (.int 0)]) dX10_lays_1 ⟨Nat.le_of_ble_eq_true rfl, rfl⟩ rfl rfl ?_)
  exact go_wp rfl (lyz0 u v 97 10 90 Q (fun _ => rfl) (fun _ => set_same rfl) (by decide +kernel) (by decide) h 10 0 (by decide) _ (by decide))
set_option maxRecDepth 100000 in
set_option maxHeartbeats 40000000 in
theorem ly0_12 (u v : Int32) (Q : ex_Q) (h : Q none (cst 0 u v 110 af_1)) : sp_X10_lays [.ref 76, .ref 98, .int 0] (cst 0 u v 100 af_1) Q := by
  refine sp_in (lv := [some (.ref 76), some (.ref 98), some (.int 0), none]) rfl (Nat.le_of_ble_eq_true rfl) rfl ?_
  refine wq_iconst (v := 0) dX10_lays_0 (by decide) rfl ?_
  refine go_wp rfl (wq_istore_n (lv' := [some (.ref 76), some (.ref 98), some (.int 0), some (.int 0)]) dX10_lays_1 ⟨Nat.le_of_ble_eq_true rfl, rfl⟩ rfl rfl ?_)
  exact go_wp rfl (lyz0 u v 98 10 100 Q (fun _ => rfl) (fun _ => set_same rfl) (by decide +kernel) (by decide) h 10 0 (by decide) _ (by decide))
set_option maxRecDepth 100000 in
set_option maxHeartbeats 40000000 in
theorem ly0_13 (u v : Int32) (Q : ex_Q) (h : Q none (cst 0 u v 120 af_1)) : sp_X10_lays [.ref 76, .ref 99, .int 0] (cst 0 u v 110 af_1) Q := by
  refine sp_in (lv := [some (.ref 76), some (.ref 99), some (.int 0), none]) rfl (Nat.le_of_ble_eq_true rfl) rfl ?_
  refine wq_iconst (v := 0) dX10_lays_0 (by decide) rfl ?_
  refine go_wp rfl (wq_istore_n (lv' := [some (.ref 76), some (.ref 99), some (.int 0), some (.int 0)]) dX10_lays_1 ⟨Nat.le_of_ble_eq_true rfl, rfl⟩ rfl rfl ?_)
  exact go_wp rfl (lyz0 u v 99 10 110 Q (fun _ => rfl) (fun _ => set_same rfl) (by decide +kernel) (by decide) h 10 0 (by decide) _ (by decide))
set_option maxRecDepth 100000 in
set_option maxHeartbeats 40000000 in
theorem ly0_14 (u v : Int32) (Q : ex_Q) (h : Q none (cst 0 u v 126 af_1)) : sp_X10_lays [.ref 76, .ref 100, .int 0] (cst 0 u v 120 af_1) Q := by
  refine sp_in (lv := [some (.ref 76), some (.ref 100), some (.int 0), none]) rfl (Nat.le_of_ble_eq_true rfl) rfl ?_
  refine wq_iconst (v := 0) dX10_lays_0 (by decide) rfl ?_
  refine go_wp rfl (wq_istore_n (lv' := [some (.ref 76), some (.ref 100), some (.int 0), some (.int 0)]) dX10_lays_1 ⟨Nat.le_of_ble_eq_true rfl, rfl⟩ rfl rfl ?_)
  exact go_wp rfl (lyz0 u v 100 6 120 Q (fun _ => rfl) (fun _ => set_same rfl) (by decide +kernel) (by decide) h 6 0 (by decide) _ (by decide))
theorem csm_ao (u v x y : Int32) (g : Nat → Int32) : ((cst 0 u v x af_1).set 101 (.inl (0, 11, .inl g))).set 76 (wo_m y) = (cst 0 u v y af_1).set 101 (.inl (0, 11, .inl g)) := by
  rw [List.set_comm _ _ (by decide : (101 : Nat) ≠ 76), cst_ao]
theorem csm_mi (u v x : Int32) (g g' : Nat → Int32) : ((cst 0 u v x af_1).set 101 (.inl (0, 11, .inl g))).set 101 (.inl (0, 11, .inl g')) = (cst 0 u v x af_1).set 101 (.inl (0, 11, .inl g')) := by
  rw [List.set_set]
set_option maxRecDepth 100000 in
set_option maxHeartbeats 40000000 in
theorem lym0 (u v : Int32) (Q : ex_Q) (h : ∀ cs, Q none cs) : ∀ k j g, j + k = 11 → ∀ fuel, 25 * k + 10 ≤ fuel → ex_wp ec_xt cx_X10_lays cX10_lays none (fun _ => none) Q fuel 2 [some (.ref 76), some (.ref 101), some (.int 0), some (.int (nI j))] [] ((cst 0 u v (nI (126 + j)) af_1).set 101 (.inl (0, 11, .inl g))) := by
  intro k
  induction k with
  | zero =>
    intro j g hj fuel hf
    obtain ⟨f, rfl⟩ : ∃ f, fuel = f + 5 := ⟨fuel - 5, by omega⟩
    have hjn : j = 11 := by omega
    subst hjn
    refine wq_iload_n dX10_lays_2 rfl rfl ?_
    refine go_wp rfl (wq_aload_n dX10_lays_3 rfl rfl ?_)
    refine go_wp rfl (wq_arraylength (v := 11) dX10_lays_4 rfl (Or.inl rfl) (by decide) rfl ?_)
    refine go_wp rfl (wq_icmp_ge_t (t := 55) dX10_lays_5 (by decide) (by decide) ?_)
    exact go_wp rfl (wq_return dX10_lays_55 rfl (h _))
  | succ k ih =>
    intro j g hj fuel hf
    obtain ⟨f, rfl⟩ : ∃ f, fuel = f + 25 := ⟨fuel - 25, by omega⟩
    have hjn : j < 11 := by omega
    have hvj : vp_in (nI j) 11 := vp_in_nI hjn (by omega)
    have hva : vp_in (nI (126 + j)) 160 := vp_in_nI (by omega) (by omega)
    refine wq_iload_n dX10_lays_2 rfl rfl ?_
    refine go_wp rfl (wq_aload_n dX10_lays_3 rfl rfl ?_)
    refine go_wp rfl (wq_arraylength (v := nI 11) dX10_lays_4 rfl (Or.inl rfl) rfl rfl ?_)
    refine go_wp rfl (wq_icmp_ge_f (t := 55) dX10_lays_5 (by decide) rfl (nI_ge hjn (by omega)) ?_)
    refine go_wp rfl (wq_iload_n dX10_lays_8 rfl rfl ?_)
    refine go_wp rfl (wq_if_eq_t (t := 27) dX10_lays_9 (by decide) rfl ?_)
    refine go_wp rfl (wq_aload_n dX10_lays_27 rfl rfl ?_)
    refine go_wp rfl (wq_iload_n dX10_lays_28 rfl rfl ?_)
    refine go_wp rfl (wq_aload_n dX10_lays_29 rfl rfl ?_)
    refine go_wp rfl (wq_getfield (v := .ref 115) dX10_lays_30 fe_X10_144 rfl rfl rfl ?_)
    refine go_wp rfl (wq_aload_n dX10_lays_33 rfl rfl ?_)
    refine go_wp rfl (wq_getfield (v := .int (nI (126 + j))) dX10_lays_34 fe_X10_266 rfl rfl rfl ?_)
    refine go_wp rfl (wq_iaload dX10_lays_37 (by decide) rfl hva rfl rfl ?_)
    refine go_wp rfl (wq_iastore dX10_lays_38 rfl hvj rfl (csm_mi _ _ _ _ _) rfl ?_)
    refine go_wp rfl (wq_aload_n dX10_lays_39 rfl rfl ?_)
    refine go_wp rfl (wq_dup dX10_lays_40 rfl rfl ?_)
    refine go_wp rfl (wq_getfield (v := .int (nI (126 + j))) dX10_lays_41 fe_X10_266 rfl rfl rfl ?_)
    refine go_wp rfl (wq_iconst (v := 1) dX10_lays_44 (by decide) rfl ?_)
    refine go_wp rfl (wq_iadd (v := nI (126 + (j + 1))) dX10_lays_45 (nI_1 (126 + j)) rfl ?_)
    refine go_wp rfl (wq_putfield (fs' := [.int 0, .ref 77, .ref 78, .ref 79, .int 0, .ref 80, .ref 81, .ref 82, .ref 83, .int 0, .ref 84, .ref 85, .ref 86, .ref 87, .ref 88, .ref 89, .int 0, .ref 90, .ref 91, .ref 92, .ref 93, .ref 94, .ref 95, .ref 96, .ref 97, .ref 98, .ref 99, .ref 100, .ref 101, .int 0, .int 1000, .int 200, .int 300, .int 5000, .int 0, .ref 102, .ref 103, .ref 104, .ref 105, .int 0, .int 0, .ref 106, .ref 107, .ref 108, .ref 109, .int 0, .ref 110, .ref 111, .ref 112, .int 5, .int 400000, .int 0, .int 0, .ref 113, .ref 114, .ref 115, .int (nI (126 + (j + 1)))]) dX10_lays_46 fe_X10_266 rfl (Nat.le_of_ble_eq_true rfl) trivial rfl (csm_ao _ _ _ _ _) rfl ?_)
    refine go_wp rfl (wq_iinc (v := nI (j + 1)) (lv' := [some (.ref 76), some (.ref 101), some (.int 0), some (.int (nI (j + 1)))]) dX10_lays_49 rfl ⟨Nat.le_of_ble_eq_true rfl, rfl⟩ (tk_inc j) rfl rfl ?_)
    refine go_wp rfl (wq_goto (t := 2) dX10_lays_52 (by decide) ?_)
    exact go_wp rfl (ih (j + 1) _ (by omega) _ (by omega))
set_option maxRecDepth 100000 in
set_option maxHeartbeats 40000000 in
theorem ly0_15 (u v : Int32) (Q : ex_Q) (h : ∀ cs, Q none cs) : sp_X10_lays [.ref 76, .ref 101, .int 0] (cst 0 u v 126 af_1) Q := by
  refine sp_in (lv := [some (.ref 76), some (.ref 101), some (.int 0), none]) rfl (Nat.le_of_ble_eq_true rfl) rfl ?_
  refine wq_iconst (v := 0) dX10_lays_0 (by decide) rfl ?_
  refine go_wp rfl (wq_istore_n (lv' := [some (.ref 76), some (.ref 101), some (.int 0), some (.int 0)]) dX10_lays_1 ⟨Nat.le_of_ble_eq_true rfl, rfl⟩ rfl rfl ?_)
  have e : cst 0 u v 126 af_1 = (cst 0 u v 126 af_1).set 101 (.inl (0, 11, .inl (mi_f v))) := (set_same rfl).symm
  rw [e]
  exact go_wp rfl (lym0 u v Q h 11 0 (mi_f v) (by decide) _ (by decide))

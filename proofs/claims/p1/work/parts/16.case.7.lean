set_option maxRecDepth 100000 in
set_option maxHeartbeats 40000000 in
theorem case_42 (xs : Nat → Int32) (a b c d : Int32) (e1 : xs 1 = a) (e2 : xs 2 = b) (e3 : xs 3 = c) (e4 : xs 4 = d) : ex_go (ec_xt ++ [(5, xs)]) cx_L cL_law (some .boolean) law_I law_Q 60 1438 [some (.ref 1003), some (.ref 0), some (.ref 76), some (.int 0)] [] ini_cs := by
  refine go_wp rfl (wq_aload_n dL_law_1438 rfl rfl ?_)
  refine go_wp rfl (wq_aload_n dL_law_1439 rfl rfl ?_)
  refine go_wp rfl (wq_iload_n dL_law_1440 rfl rfl ?_)
  refine go_wp rfl (wq_iconst (v := 1) dL_law_1441 (by decide) rfl ?_)
  refine go_wp rfl (wq_iadd (v := 1) dL_law_1442 (by decide) rfl ?_)
  refine go_wp rfl (wq_ialoadX (j := 3) (v := a) dL_law_1443 rfl rfl (vp_dec (by decide)) e1 rfl ?_)
  refine go_wp rfl (wq_virtual (a := 0) (av := [.ref 0, .int a]) (r := []) dL_law_1444 rfl (Nat.le_of_ble_eq_true rfl) rfl rfl rfl (Nat.le_of_ble_eq_true rfl) rfl rfl ?_)
  refine sp_in (lv := [some (.ref 0), some (.int a)]) rfl (Nat.le_of_ble_eq_true rfl) rfl ?_
  refine wq_aload_n dX9_tell_0 rfl rfl ?_
  refine go_wp rfl (wq_getfield (v := .int 0) dX9_tell_1 fe_X9_245 rfl rfl rfl ?_)
  refine go_wp rfl (wq_bipush (v := 24) dX9_tell_4 (by decide) rfl ?_)
  refine go_wp rfl (wq_icmp_lt_t (t := 16) dX9_tell_6 (by decide) (by decide) ?_)
  refine go_wp rfl (wq_aload_n dX9_tell_16 rfl rfl ?_)
  refine go_wp rfl (wq_getfield (v := .ref 74) dX9_tell_17 fe_X9_42 rfl rfl rfl ?_)
  refine go_wp rfl (wq_aload_n dX9_tell_20 rfl rfl ?_)
  refine go_wp rfl (wq_getfield (v := .int 0) dX9_tell_21 fe_X9_245 rfl rfl rfl ?_)
  refine go_wp rfl (wq_iload_n dX9_tell_24 rfl rfl ?_)
  refine go_wp rfl (wq_iastore dX9_tell_25 rfl (vp_dec (by decide)) rfl rfl rfl ?_)
  refine go_wp rfl (wq_aload_n dX9_tell_26 rfl rfl ?_)
  refine go_wp rfl (wq_dup dX9_tell_27 rfl rfl ?_)
  refine go_wp rfl (wq_getfield (v := .int 0) dX9_tell_28 fe_X9_245 rfl rfl rfl ?_)
  refine go_wp rfl (wq_iconst (v := 1) dX9_tell_31 (by decide) rfl ?_)
  refine go_wp rfl (wq_iadd (v := 1) dX9_tell_32 (by decide) rfl ?_)
  refine go_wp rfl (wq_putfield (fs' := [.ref 1, .ref 6, .ref 35, .ref 64, .ref 66, .ref 74, .ref 75, .int 1, .int 400000, .int 0]) dX9_tell_33 fe_X9_245 rfl (Nat.le_of_ble_eq_true rfl) trivial rfl rfl rfl ?_)
  refine go_wp rfl (wq_aload_n dX9_tell_36 rfl rfl ?_)
  refine go_wp rfl (wq_getfield (v := .int 1) dX9_tell_37 fe_X9_245 rfl rfl rfl ?_)
  refine go_wp rfl (wq_ireturn dX9_tell_40 trivial (ret_int ?_))
  refine go_wp rfl (wq_aload_n dL_law_1447 rfl rfl ?_)
  refine go_wp rfl (wq_aload_n dL_law_1448 rfl rfl ?_)
  refine go_wp rfl (wq_iload_n dL_law_1449 rfl rfl ?_)
  refine go_wp rfl (wq_iconst (v := 1) dL_law_1450 (by decide) rfl ?_)
  refine go_wp rfl (wq_iadd (v := 1) dL_law_1451 (by decide) rfl ?_)
  refine go_wp rfl (wq_ialoadX (j := 3) (v := a) dL_law_1452 rfl rfl (vp_dec (by decide)) e1 rfl ?_)
  refine go_wp rfl (wq_virtual (a := 76) (av := [.ref 76, .int a]) (r := [.int 1]) dL_law_1453 rfl (Nat.le_of_ble_eq_true rfl) rfl rfl rfl (Nat.le_of_ble_eq_true rfl) rfl rfl ?_)
  refine sp_in (lv := [some (.ref 76), some (.int a)]) rfl (Nat.le_of_ble_eq_true rfl) rfl ?_
  refine wq_aload_n dX10_tell_0 rfl rfl ?_
  refine go_wp rfl (wq_getfield (v := .int 0) dX10_tell_1 fe_X10_302 rfl rfl rfl ?_)
  refine go_wp rfl (wq_bipush (v := 24) dX10_tell_4 (by decide) rfl ?_)
  refine go_wp rfl (wq_icmp_ne_t (t := 15) dX10_tell_6 (by decide) (by decide) ?_)
  refine go_wp rfl (wq_aload_n dX10_tell_15 rfl rfl ?_)
  refine go_wp rfl (wq_getfield (v := .ref 113) dX10_tell_16 fe_X10_138 rfl rfl rfl ?_)
  refine go_wp rfl (wq_aload_n dX10_tell_19 rfl rfl ?_)
  refine go_wp rfl (wq_getfield (v := .int 0) dX10_tell_20 fe_X10_302 rfl rfl rfl ?_)
  refine go_wp rfl (wq_iload_n dX10_tell_23 rfl rfl ?_)
  refine go_wp rfl (wq_iastore dX10_tell_24 rfl (vp_dec (by decide)) rfl rfl rfl ?_)
  refine go_wp rfl (wq_aload_n dX10_tell_25 rfl rfl ?_)
  refine go_wp rfl (wq_dup dX10_tell_26 rfl rfl ?_)
  refine go_wp rfl (wq_getfield (v := .int 0) dX10_tell_27 fe_X10_302 rfl rfl rfl ?_)
  refine go_wp rfl (wq_iconst (v := 1) dX10_tell_30 (by decide) rfl ?_)
  refine go_wp rfl (wq_iadd (v := 1) dX10_tell_31 (by decide) rfl ?_)
  refine go_wp rfl (wq_putfield (fs' := [.int 0, .ref 77, .ref 78, .ref 79, .int 0, .ref 80, .ref 81, .ref 82, .ref 83, .int 0, .ref 84, .ref 85, .ref 86, .ref 87, .ref 88, .ref 89, .int 0, .ref 90, .ref 91, .ref 92, .ref 93, .ref 94, .ref 95, .ref 96, .ref 97, .ref 98, .ref 99, .ref 100, .ref 101, .int 0, .int 1000, .int 200, .int 300, .int 5000, .int 0, .ref 102, .ref 103, .ref 104, .ref 105, .int 0, .int 0, .ref 106, .ref 107, .ref 108, .ref 109, .int 0, .ref 110, .ref 111, .ref 112, .int 5, .int 400000, .int 0, .int 1, .ref 113, .ref 114, .ref 115, .int 0]) dX10_tell_32 fe_X10_302 rfl (Nat.le_of_ble_eq_true rfl) trivial rfl rfl rfl ?_)
  refine go_wp rfl (wq_aload_n dX10_tell_35 rfl rfl ?_)
  refine go_wp rfl (wq_getfield (v := .int 1) dX10_tell_36 fe_X10_302 rfl rfl rfl ?_)
  refine go_wp rfl (wq_ireturn dX10_tell_39 trivial (ret_int ?_))
  refine go_wp rfl (wq_icmp_eq_t (t := 1540) dL_law_1456 (by decide) (by decide) ?_)
  refine go_wp rfl (wq_iinc (v := 5) (lv' := [some (.ref 1003), some (.ref 0), some (.ref 76), some (.int 5)]) dL_law_1540 rfl ⟨Nat.le_of_ble_eq_true rfl, rfl⟩ (by decide) rfl rfl ?_)
  refine go_wp rfl (wq_goto (t := 18) dL_law_1543 (by decide) ?_)
  exact go_cut rfl ⟨rfl, rfl⟩
set_option maxRecDepth 100000 in
set_option maxHeartbeats 40000000 in
theorem case_43 (xs : Nat → Int32) (a b c d : Int32) (e1 : xs 1 = a) (e2 : xs 2 = b) (e3 : xs 3 = c) (e4 : xs 4 = d) : ex_go (ec_xt ++ [(5, xs)]) cx_L cL_law (some .boolean) law_I law_Q 60 1461 [some (.ref 1003), some (.ref 0), some (.ref 76), some (.int 0)] [] ini_cs := by
  refine go_wp rfl (wq_aload_n dL_law_1461 rfl rfl ?_)
  refine go_wp rfl (wq_aload_n dL_law_1462 rfl rfl ?_)
  refine go_wp rfl (wq_iload_n dL_law_1463 rfl rfl ?_)
  refine go_wp rfl (wq_iconst (v := 1) dL_law_1464 (by decide) rfl ?_)
  refine go_wp rfl (wq_iadd (v := 1) dL_law_1465 (by decide) rfl ?_)
  refine go_wp rfl (wq_ialoadX (j := 3) (v := a) dL_law_1466 rfl rfl (vp_dec (by decide)) e1 rfl ?_)
  refine go_wp rfl (wq_aload_n dL_law_1467 rfl rfl ?_)
  refine go_wp rfl (wq_iload_n dL_law_1468 rfl rfl ?_)
  refine go_wp rfl (wq_iconst (v := 2) dL_law_1469 (by decide) rfl ?_)
  refine go_wp rfl (wq_iadd (v := 2) dL_law_1470 (by decide) rfl ?_)
  refine go_wp rfl (wq_ialoadX (j := 3) (v := b) dL_law_1471 rfl rfl (vp_dec (by decide)) e2 rfl ?_)
  refine go_wp rfl (wq_virtual (a := 0) (av := [.ref 0, .int a, .int b]) (r := []) dL_law_1472 rfl (Nat.le_of_ble_eq_true rfl) rfl rfl rfl (Nat.le_of_ble_eq_true rfl) rfl rfl ?_)
  refine sp_in (lv := [some (.ref 0), some (.int a), some (.int b), none, none]) rfl (Nat.le_of_ble_eq_true rfl) rfl ?_
  refine wq_aload_n dX9_check_0 rfl rfl ?_
  refine go_wp rfl (wq_getfield (v := .int 0) dX9_check_1 fe_X9_245 rfl rfl rfl ?_)
  refine go_wp rfl (wq_istore_n (lv' := [some (.ref 0), some (.int a), some (.int b), some (.int 0), none]) dX9_check_4 ⟨Nat.le_of_ble_eq_true rfl, rfl⟩ rfl rfl ?_)
  refine go_wp rfl (wq_aload_n dX9_check_5 rfl rfl ?_)
  refine go_wp rfl (wq_iconst (v := 0) dX9_check_6 (by decide) rfl ?_)
  refine go_wp rfl (wq_putfield (fs' := [.ref 1, .ref 6, .ref 35, .ref 64, .ref 66, .ref 74, .ref 75, .int 0, .int 400000, .int 0]) dX9_check_7 fe_X9_245 rfl (Nat.le_of_ble_eq_true rfl) trivial rfl rfl rfl ?_)
  refine go_wp rfl (wq_aload_n dX9_check_10 rfl rfl ?_)
  refine go_wp rfl (wq_getfield (v := .ref 6) dX9_check_11 fe_X9_21 rfl rfl rfl ?_)
  refine go_wp rfl (wq_getfield (v := .ref 7) dX9_check_14 fe_X9_54 rfl rfl rfl ?_)
  refine go_wp rfl (wq_iload_n dX9_check_17 rfl rfl ?_)
  refine go_wp rfl (wq_virtual (a := 7) (av := [.ref 7, .int a]) (r := []) dX9_check_18 rfl (Nat.le_of_ble_eq_true rfl) rfl rfl rfl (Nat.le_of_ble_eq_true rfl) rfl rfl ?_)
  refine sp_in (lv := [some (.ref 7), some (.int a)]) rfl (Nat.le_of_ble_eq_true rfl) rfl ?_
  refine wq_iload_n dX0_hasModule_0 rfl rfl ?_
  refine go_wp rfl (wq_if_lt (t := 16) dX0_hasModule_1 (by decide) rfl (fun h1 => ?_) (fun h1 => ?_))
  · skip
    refine go_wp rfl (wq_iconst (v := 0) dX0_hasModule_16 (by decide) rfl ?_)
    refine go_wp rfl (wq_ireturn dX0_hasModule_17 (Or.inl rfl) (ret_int ?_))
    refine go_wp rfl (wq_if_eq_t (t := 31) dX9_check_21 (by decide) (by decide) ?_)
    refine go_wp rfl (wq_aload_n dX9_check_31 rfl rfl ?_)
    refine go_wp rfl (wq_ldc (v := (-1000000001)) dX9_check_32 ce_X9_92 rfl ?_)
    refine go_wp rfl (wq_virtual (a := 0) (av := [.ref 0, .int (-1000000001)]) (r := []) dX9_check_34 rfl (Nat.le_of_ble_eq_true rfl) rfl rfl rfl (Nat.le_of_ble_eq_true rfl) rfl rfl ?_)
    refine sp_in (lv := [some (.ref 0), some (.int (-1000000001))]) rfl (Nat.le_of_ble_eq_true rfl) rfl ?_
    refine wq_iload_n dX9_counted_0 rfl rfl ?_
    refine go_wp rfl (wq_ldc_w (v := (-1000000000)) dX9_counted_1 ce_X9_275 rfl ?_)
    refine go_wp rfl (wq_icmp_ge_f (t := 28) dX9_counted_4 (by decide) rfl (by decide) ?_)
    refine go_wp rfl (wq_iload_n dX9_counted_7 rfl rfl ?_)
    refine go_wp rfl (wq_ldc_w (v := (-1000000005)) dX9_counted_8 ce_X9_276 rfl ?_)
    refine go_wp rfl (wq_icmp_lt_f (t := 28) dX9_counted_11 (by decide) rfl (by decide) ?_)
    refine go_wp rfl (wq_aload_n dX9_counted_14 rfl rfl ?_)
    refine go_wp rfl (wq_getfield (v := .ref 75) dX9_counted_15 fe_X9_46 rfl rfl rfl ?_)
    refine go_wp rfl (wq_ldc_w (v := (-1000000000)) dX9_counted_18 ce_X9_275 rfl ?_)
    refine go_wp rfl (wq_iload_n dX9_counted_21 rfl rfl ?_)
    refine go_wp rfl (wq_isub (v := 1) dX9_counted_22 (by decide) rfl ?_)
    refine go_wp rfl (wq_dup2 dX9_counted_23 rfl rfl rfl ?_)
    refine go_wp rfl (wq_iaload (v := 0) dX9_counted_24 (by decide) rfl (vp_dec (by decide)) rfl rfl ?_)
    refine go_wp rfl (wq_iconst (v := 1) dX9_counted_25 (by decide) rfl ?_)
    refine go_wp rfl (wq_iadd (v := 1) dX9_counted_26 (by decide) rfl ?_)
    refine go_wp rfl (wq_iastore dX9_counted_27 rfl (vp_dec (by decide)) rfl rfl rfl ?_)
    refine go_wp rfl (wq_iload_n dX9_counted_28 rfl rfl ?_)
    refine go_wp rfl (wq_ireturn dX9_counted_29 trivial (ret_int ?_))
    refine go_wp rfl (wq_ireturn dX9_check_37 trivial (ret_int ?_))
    refine go_wp rfl (wq_aload_n dL_law_1475 rfl rfl ?_)
    refine go_wp rfl (wq_aload_n dL_law_1476 rfl rfl ?_)
    refine go_wp rfl (wq_iload_n dL_law_1477 rfl rfl ?_)
    refine go_wp rfl (wq_iconst (v := 1) dL_law_1478 (by decide) rfl ?_)
    refine go_wp rfl (wq_iadd (v := 1) dL_law_1479 (by decide) rfl ?_)
    refine go_wp rfl (wq_ialoadX (j := 3) (v := a) dL_law_1480 rfl rfl (vp_dec (by decide)) e1 rfl ?_)
    refine go_wp rfl (wq_aload_n dL_law_1481 rfl rfl ?_)
    refine go_wp rfl (wq_iload_n dL_law_1482 rfl rfl ?_)
    refine go_wp rfl (wq_iconst (v := 2) dL_law_1483 (by decide) rfl ?_)
    refine go_wp rfl (wq_iadd (v := 2) dL_law_1484 (by decide) rfl ?_)
    refine go_wp rfl (wq_ialoadX (j := 3) (v := b) dL_law_1485 rfl rfl (vp_dec (by decide)) e2 rfl ?_)
    refine go_wp rfl (wq_virtual (a := 76) (av := [.ref 76, .int a, .int b]) (r := [.int (-1000000001)]) dL_law_1486 rfl (Nat.le_of_ble_eq_true rfl) rfl rfl rfl (Nat.le_of_ble_eq_true rfl) rfl rfl ?_)
    refine sp_in (lv := [some (.ref 76), some (.int a), some (.int b), none, none, none, none]) rfl (Nat.le_of_ble_eq_true rfl) rfl ?_
    refine wq_aload_n dX10_check_0 rfl rfl ?_
    refine go_wp rfl (wq_getfield (v := .int 0) dX10_check_1 fe_X10_302 rfl rfl rfl ?_)
    refine go_wp rfl (wq_istore_n (lv' := [some (.ref 76), some (.int a), some (.int b), some (.int 0), none, none, none]) dX10_check_4 ⟨Nat.le_of_ble_eq_true rfl, rfl⟩ rfl rfl ?_)
    refine go_wp rfl (wq_aload_n dX10_check_5 rfl rfl ?_)
    refine go_wp rfl (wq_iconst (v := 0) dX10_check_6 (by decide) rfl ?_)
    refine go_wp rfl (wq_putfield (fs' := [.int 0, .ref 77, .ref 78, .ref 79, .int 0, .ref 80, .ref 81, .ref 82, .ref 83, .int 0, .ref 84, .ref 85, .ref 86, .ref 87, .ref 88, .ref 89, .int 0, .ref 90, .ref 91, .ref 92, .ref 93, .ref 94, .ref 95, .ref 96, .ref 97, .ref 98, .ref 99, .ref 100, .ref 101, .int 0, .int 1000, .int 200, .int 300, .int 5000, .int 0, .ref 102, .ref 103, .ref 104, .ref 105, .int 0, .int 0, .ref 106, .ref 107, .ref 108, .ref 109, .int 0, .ref 110, .ref 111, .ref 112, .int 5, .int 400000, .int 0, .int 0, .ref 113, .ref 114, .ref 115, .int 0]) dX10_check_7 fe_X10_302 rfl (Nat.le_of_ble_eq_true rfl) trivial rfl rfl rfl ?_)
    refine go_wp rfl (wq_aload_n dX10_check_10 rfl rfl ?_)
    refine go_wp rfl (wq_iload_n dX10_check_11 rfl rfl ?_)
    refine go_wp rfl (wq_virtual (a := 76) (av := [.ref 76, .int a]) (r := []) dX10_check_12 rfl (Nat.le_of_ble_eq_true rfl) rfl rfl rfl (Nat.le_of_ble_eq_true rfl) rfl rfl ?_)
    refine sp_in (lv := [some (.ref 76), some (.int a)]) rfl (Nat.le_of_ble_eq_true rfl) rfl ?_
    refine wq_iload_n dX10_isModule_0 rfl rfl ?_
    refine go_wp rfl (wq_if_lt_t (t := 16) dX10_isModule_1 (by decide) (by simp only [Int32.lt_iff_toInt_lt, Int32.le_iff_toInt_le, ← Int32.toInt_inj, Int32.reduceToInt] at h1 ⊢; omega) ?_)
    refine go_wp rfl (wq_iconst (v := 0) dX10_isModule_16 (by decide) rfl ?_)
    refine go_wp rfl (wq_ireturn dX10_isModule_17 (Or.inl rfl) (ret_int ?_))
    refine go_wp rfl (wq_if_eq_t (t := 27) dX10_check_15 (by decide) (by decide) ?_)
    refine go_wp rfl (wq_aload_n dX10_check_27 rfl rfl ?_)
    refine go_wp rfl (wq_iconst (v := 1) dX10_check_28 (by decide) rfl ?_)
    refine go_wp rfl (wq_virtual (a := 76) (av := [.ref 76, .int 1]) (r := []) dX10_check_29 rfl (Nat.le_of_ble_eq_true rfl) rfl rfl rfl (Nat.le_of_ble_eq_true rfl) rfl rfl ?_)
    refine sp_in (lv := [some (.ref 76), some (.int 1)]) rfl (Nat.le_of_ble_eq_true rfl) rfl ?_
    refine wq_aload_n dX10_finding_0 rfl rfl ?_
    refine go_wp rfl (wq_getfield (v := .ref 114) dX10_finding_1 fe_X10_141 rfl rfl rfl ?_)
    refine go_wp rfl (wq_iload_n dX10_finding_4 rfl rfl ?_)
    refine go_wp rfl (wq_dup2 dX10_finding_5 rfl rfl rfl ?_)
    refine go_wp rfl (wq_iaload (v := 0) dX10_finding_6 (by decide) rfl (vp_dec (by decide)) rfl rfl ?_)
    refine go_wp rfl (wq_iconst (v := 1) dX10_finding_7 (by decide) rfl ?_)
    refine go_wp rfl (wq_iadd (v := 1) dX10_finding_8 (by decide) rfl ?_)
    refine go_wp rfl (wq_iastore dX10_finding_9 rfl (vp_dec (by decide)) rfl rfl rfl ?_)
    refine go_wp rfl (wq_ldc (v := (-1000000000)) dX10_finding_10 ce_X10_147 rfl ?_)
    refine go_wp rfl (wq_iload_n dX10_finding_12 rfl rfl ?_)
    refine go_wp rfl (wq_isub (v := (-1000000001)) dX10_finding_13 (by decide) rfl ?_)
    refine go_wp rfl (wq_ireturn dX10_finding_14 trivial (ret_int ?_))
    refine go_wp rfl (wq_ireturn dX10_check_32 trivial (ret_int ?_))
    refine go_wp rfl (wq_icmp_eq_t (t := 1540) dL_law_1489 (by decide) (by decide) ?_)
    refine go_wp rfl (wq_iinc (v := 5) (lv' := [some (.ref 1003), some (.ref 0), some (.ref 76), some (.int 5)]) dL_law_1540 rfl ⟨Nat.le_of_ble_eq_true rfl, rfl⟩ (by decide) rfl rfl ?_)
    refine go_wp rfl (wq_goto (t := 18) dL_law_1543 (by decide) ?_)
    exact go_cut rfl ⟨rfl, rfl⟩
  · skip
    refine go_wp rfl (wq_iload_n dX0_hasModule_4 rfl rfl ?_)
    refine go_wp rfl (wq_aload_n dX0_hasModule_5 rfl rfl ?_)
    refine go_wp rfl (wq_getfield (v := .int 0) dX0_hasModule_6 fe_X0_39 rfl rfl rfl ?_)
    refine go_wp rfl (wq_icmp_ge_t (t := 16) dX0_hasModule_9 (by decide) (by simp only [Int32.lt_iff_toInt_lt, Int32.le_iff_toInt_le, ← Int32.toInt_inj, Int32.reduceToInt] at h1 ⊢; omega) ?_)
    refine go_wp rfl (wq_iconst (v := 0) dX0_hasModule_16 (by decide) rfl ?_)
    refine go_wp rfl (wq_ireturn dX0_hasModule_17 (Or.inl rfl) (ret_int ?_))
    refine go_wp rfl (wq_if_eq_t (t := 31) dX9_check_21 (by decide) (by decide) ?_)
    refine go_wp rfl (wq_aload_n dX9_check_31 rfl rfl ?_)
    refine go_wp rfl (wq_ldc (v := (-1000000001)) dX9_check_32 ce_X9_92 rfl ?_)
    refine go_wp rfl (wq_virtual (a := 0) (av := [.ref 0, .int (-1000000001)]) (r := []) dX9_check_34 rfl (Nat.le_of_ble_eq_true rfl) rfl rfl rfl (Nat.le_of_ble_eq_true rfl) rfl rfl ?_)
    refine sp_in (lv := [some (.ref 0), some (.int (-1000000001))]) rfl (Nat.le_of_ble_eq_true rfl) rfl ?_
    refine wq_iload_n dX9_counted_0 rfl rfl ?_
    refine go_wp rfl (wq_ldc_w (v := (-1000000000)) dX9_counted_1 ce_X9_275 rfl ?_)
    refine go_wp rfl (wq_icmp_ge_f (t := 28) dX9_counted_4 (by decide) rfl (by decide) ?_)
    refine go_wp rfl (wq_iload_n dX9_counted_7 rfl rfl ?_)
    refine go_wp rfl (wq_ldc_w (v := (-1000000005)) dX9_counted_8 ce_X9_276 rfl ?_)
    refine go_wp rfl (wq_icmp_lt_f (t := 28) dX9_counted_11 (by decide) rfl (by decide) ?_)
    refine go_wp rfl (wq_aload_n dX9_counted_14 rfl rfl ?_)
    refine go_wp rfl (wq_getfield (v := .ref 75) dX9_counted_15 fe_X9_46 rfl rfl rfl ?_)
    refine go_wp rfl (wq_ldc_w (v := (-1000000000)) dX9_counted_18 ce_X9_275 rfl ?_)
    refine go_wp rfl (wq_iload_n dX9_counted_21 rfl rfl ?_)
    refine go_wp rfl (wq_isub (v := 1) dX9_counted_22 (by decide) rfl ?_)
    refine go_wp rfl (wq_dup2 dX9_counted_23 rfl rfl rfl ?_)
    refine go_wp rfl (wq_iaload (v := 0) dX9_counted_24 (by decide) rfl (vp_dec (by decide)) rfl rfl ?_)
    refine go_wp rfl (wq_iconst (v := 1) dX9_counted_25 (by decide) rfl ?_)
    refine go_wp rfl (wq_iadd (v := 1) dX9_counted_26 (by decide) rfl ?_)
    refine go_wp rfl (wq_iastore dX9_counted_27 rfl (vp_dec (by decide)) rfl rfl rfl ?_)
    refine go_wp rfl (wq_iload_n dX9_counted_28 rfl rfl ?_)
    refine go_wp rfl (wq_ireturn dX9_counted_29 trivial (ret_int ?_))
    refine go_wp rfl (wq_ireturn dX9_check_37 trivial (ret_int ?_))
    refine go_wp rfl (wq_aload_n dL_law_1475 rfl rfl ?_)
    refine go_wp rfl (wq_aload_n dL_law_1476 rfl rfl ?_)
    refine go_wp rfl (wq_iload_n dL_law_1477 rfl rfl ?_)
    refine go_wp rfl (wq_iconst (v := 1) dL_law_1478 (by decide) rfl ?_)
    refine go_wp rfl (wq_iadd (v := 1) dL_law_1479 (by decide) rfl ?_)
    refine go_wp rfl (wq_ialoadX (j := 3) (v := a) dL_law_1480 rfl rfl (vp_dec (by decide)) e1 rfl ?_)
    refine go_wp rfl (wq_aload_n dL_law_1481 rfl rfl ?_)
    refine go_wp rfl (wq_iload_n dL_law_1482 rfl rfl ?_)
    refine go_wp rfl (wq_iconst (v := 2) dL_law_1483 (by decide) rfl ?_)
    refine go_wp rfl (wq_iadd (v := 2) dL_law_1484 (by decide) rfl ?_)
    refine go_wp rfl (wq_ialoadX (j := 3) (v := b) dL_law_1485 rfl rfl (vp_dec (by decide)) e2 rfl ?_)
    refine go_wp rfl (wq_virtual (a := 76) (av := [.ref 76, .int a, .int b]) (r := [.int (-1000000001)]) dL_law_1486 rfl (Nat.le_of_ble_eq_true rfl) rfl rfl rfl (Nat.le_of_ble_eq_true rfl) rfl rfl ?_)
    refine sp_in (lv := [some (.ref 76), some (.int a), some (.int b), none, none, none, none]) rfl (Nat.le_of_ble_eq_true rfl) rfl ?_
    refine wq_aload_n dX10_check_0 rfl rfl ?_
    refine go_wp rfl (wq_getfield (v := .int 0) dX10_check_1 fe_X10_302 rfl rfl rfl ?_)
    refine go_wp rfl (wq_istore_n (lv' := [some (.ref 76), some (.int a), some (.int b), some (.int 0), none, none, none]) dX10_check_4 ⟨Nat.le_of_ble_eq_true rfl, rfl⟩ rfl rfl ?_)
    refine go_wp rfl (wq_aload_n dX10_check_5 rfl rfl ?_)
    refine go_wp rfl (wq_iconst (v := 0) dX10_check_6 (by decide) rfl ?_)
    refine go_wp rfl (wq_putfield (fs' := [.int 0, .ref 77, .ref 78, .ref 79, .int 0, .ref 80, .ref 81, .ref 82, .ref 83, .int 0, .ref 84, .ref 85, .ref 86, .ref 87, .ref 88, .ref 89, .int 0, .ref 90, .ref 91, .ref 92, .ref 93, .ref 94, .ref 95, .ref 96, .ref 97, .ref 98, .ref 99, .ref 100, .ref 101, .int 0, .int 1000, .int 200, .int 300, .int 5000, .int 0, .ref 102, .ref 103, .ref 104, .ref 105, .int 0, .int 0, .ref 106, .ref 107, .ref 108, .ref 109, .int 0, .ref 110, .ref 111, .ref 112, .int 5, .int 400000, .int 0, .int 0, .ref 113, .ref 114, .ref 115, .int 0]) dX10_check_7 fe_X10_302 rfl (Nat.le_of_ble_eq_true rfl) trivial rfl rfl rfl ?_)
    refine go_wp rfl (wq_aload_n dX10_check_10 rfl rfl ?_)
    refine go_wp rfl (wq_iload_n dX10_check_11 rfl rfl ?_)
    refine go_wp rfl (wq_virtual (a := 76) (av := [.ref 76, .int a]) (r := []) dX10_check_12 rfl (Nat.le_of_ble_eq_true rfl) rfl rfl rfl (Nat.le_of_ble_eq_true rfl) rfl rfl ?_)
    refine sp_in (lv := [some (.ref 76), some (.int a)]) rfl (Nat.le_of_ble_eq_true rfl) rfl ?_
    refine wq_iload_n dX10_isModule_0 rfl rfl ?_
    refine go_wp rfl (wq_if_lt_f (t := 16) dX10_isModule_1 (by decide) rfl (by simp only [Int32.lt_iff_toInt_lt, Int32.le_iff_toInt_le, ← Int32.toInt_inj, Int32.reduceToInt] at h1 ⊢; omega) ?_)
    refine go_wp rfl (wq_iload_n dX10_isModule_4 rfl rfl ?_)
    refine go_wp rfl (wq_aload_n dX10_isModule_5 rfl rfl ?_)
    refine go_wp rfl (wq_getfield (v := .int 0) dX10_isModule_6 fe_X10_148 rfl rfl rfl ?_)
    refine go_wp rfl (wq_icmp_ge_t (t := 16) dX10_isModule_9 (by decide) (by simp only [Int32.lt_iff_toInt_lt, Int32.le_iff_toInt_le, ← Int32.toInt_inj, Int32.reduceToInt] at h1 ⊢; omega) ?_)
    refine go_wp rfl (wq_iconst (v := 0) dX10_isModule_16 (by decide) rfl ?_)
    refine go_wp rfl (wq_ireturn dX10_isModule_17 (Or.inl rfl) (ret_int ?_))
    refine go_wp rfl (wq_if_eq_t (t := 27) dX10_check_15 (by decide) (by decide) ?_)
    refine go_wp rfl (wq_aload_n dX10_check_27 rfl rfl ?_)
    refine go_wp rfl (wq_iconst (v := 1) dX10_check_28 (by decide) rfl ?_)
    refine go_wp rfl (wq_virtual (a := 76) (av := [.ref 76, .int 1]) (r := []) dX10_check_29 rfl (Nat.le_of_ble_eq_true rfl) rfl rfl rfl (Nat.le_of_ble_eq_true rfl) rfl rfl ?_)
    refine sp_in (lv := [some (.ref 76), some (.int 1)]) rfl (Nat.le_of_ble_eq_true rfl) rfl ?_
    refine wq_aload_n dX10_finding_0 rfl rfl ?_
    refine go_wp rfl (wq_getfield (v := .ref 114) dX10_finding_1 fe_X10_141 rfl rfl rfl ?_)
    refine go_wp rfl (wq_iload_n dX10_finding_4 rfl rfl ?_)
    refine go_wp rfl (wq_dup2 dX10_finding_5 rfl rfl rfl ?_)
    refine go_wp rfl (wq_iaload (v := 0) dX10_finding_6 (by decide) rfl (vp_dec (by decide)) rfl rfl ?_)
    refine go_wp rfl (wq_iconst (v := 1) dX10_finding_7 (by decide) rfl ?_)
    refine go_wp rfl (wq_iadd (v := 1) dX10_finding_8 (by decide) rfl ?_)
    refine go_wp rfl (wq_iastore dX10_finding_9 rfl (vp_dec (by decide)) rfl rfl rfl ?_)
    refine go_wp rfl (wq_ldc (v := (-1000000000)) dX10_finding_10 ce_X10_147 rfl ?_)
    refine go_wp rfl (wq_iload_n dX10_finding_12 rfl rfl ?_)
    refine go_wp rfl (wq_isub (v := (-1000000001)) dX10_finding_13 (by decide) rfl ?_)
    refine go_wp rfl (wq_ireturn dX10_finding_14 trivial (ret_int ?_))
    refine go_wp rfl (wq_ireturn dX10_check_32 trivial (ret_int ?_))
    refine go_wp rfl (wq_icmp_eq_t (t := 1540) dL_law_1489 (by decide) (by decide) ?_)
    refine go_wp rfl (wq_iinc (v := 5) (lv' := [some (.ref 1003), some (.ref 0), some (.ref 76), some (.int 5)]) dL_law_1540 rfl ⟨Nat.le_of_ble_eq_true rfl, rfl⟩ (by decide) rfl rfl ?_)
    refine go_wp rfl (wq_goto (t := 18) dL_law_1543 (by decide) ?_)
    exact go_cut rfl ⟨rfl, rfl⟩
set_option maxRecDepth 100000 in
set_option maxHeartbeats 40000000 in
theorem case_44 (xs : Nat → Int32) (a b c d : Int32) (e1 : xs 1 = a) (e2 : xs 2 = b) (e3 : xs 3 = c) (e4 : xs 4 = d) : ex_go (ec_xt ++ [(5, xs)]) cx_L cL_law (some .boolean) law_I law_Q 60 1494 [some (.ref 1003), some (.ref 0), some (.ref 76), some (.int 0)] [] ini_cs := by
  refine go_wp rfl (wq_aload_n dL_law_1494 rfl rfl ?_)
  refine go_wp rfl (wq_aload_n dL_law_1495 rfl rfl ?_)
  refine go_wp rfl (wq_iload_n dL_law_1496 rfl rfl ?_)
  refine go_wp rfl (wq_iconst (v := 1) dL_law_1497 (by decide) rfl ?_)
  refine go_wp rfl (wq_iadd (v := 1) dL_law_1498 (by decide) rfl ?_)
  refine go_wp rfl (wq_ialoadX (j := 3) (v := a) dL_law_1499 rfl rfl (vp_dec (by decide)) e1 rfl ?_)
  refine go_wp rfl (wq_virtual (a := 0) (av := [.ref 0, .int a]) (r := []) dL_law_1500 rfl (Nat.le_of_ble_eq_true rfl) rfl rfl rfl (Nat.le_of_ble_eq_true rfl) rfl rfl ?_)
  refine sp_in (lv := [some (.ref 0), some (.int a)]) rfl (Nat.le_of_ble_eq_true rfl) rfl ?_
  refine wq_iload_n dX9_count_0 rfl rfl ?_
  refine go_wp rfl (wq_table dX9_count_1 (by decide) (fun h1 => ?_) ⟨fun h1 => ?_, fun h1 => ?_, fun h1 => ?_, fun h1 => ?_, fun h1 => ?_, fun h1 => ?_, fun h1 => ?_, fun h1 => ?_, fun h1 => ?_, fun h1 => ?_, trivial⟩)
  · skip
    refine wq_to (t := 148) (by decide) ?_
    refine go_wp rfl (wq_aload_n dX9_count_148 rfl rfl ?_)
    refine go_wp rfl (wq_ldc (v := (-1000000001)) dX9_count_149 ce_X9_92 rfl ?_)
    refine go_wp rfl (wq_virtual (a := 0) (av := [.ref 0, .int (-1000000001)]) (r := []) dX9_count_151 rfl (Nat.le_of_ble_eq_true rfl) rfl rfl rfl (Nat.le_of_ble_eq_true rfl) rfl rfl ?_)
    refine sp_in (lv := [some (.ref 0), some (.int (-1000000001))]) rfl (Nat.le_of_ble_eq_true rfl) rfl ?_
    refine wq_iload_n dX9_counted_0 rfl rfl ?_
    refine go_wp rfl (wq_ldc_w (v := (-1000000000)) dX9_counted_1 ce_X9_275 rfl ?_)
    refine go_wp rfl (wq_icmp_ge_f (t := 28) dX9_counted_4 (by decide) rfl (by decide) ?_)
    refine go_wp rfl (wq_iload_n dX9_counted_7 rfl rfl ?_)
    refine go_wp rfl (wq_ldc_w (v := (-1000000005)) dX9_counted_8 ce_X9_276 rfl ?_)
    refine go_wp rfl (wq_icmp_lt_f (t := 28) dX9_counted_11 (by decide) rfl (by decide) ?_)
    refine go_wp rfl (wq_aload_n dX9_counted_14 rfl rfl ?_)
    refine go_wp rfl (wq_getfield (v := .ref 75) dX9_counted_15 fe_X9_46 rfl rfl rfl ?_)
    refine go_wp rfl (wq_ldc_w (v := (-1000000000)) dX9_counted_18 ce_X9_275 rfl ?_)
    refine go_wp rfl (wq_iload_n dX9_counted_21 rfl rfl ?_)
    refine go_wp rfl (wq_isub (v := 1) dX9_counted_22 (by decide) rfl ?_)
    refine go_wp rfl (wq_dup2 dX9_counted_23 rfl rfl rfl ?_)
    refine go_wp rfl (wq_iaload (v := 0) dX9_counted_24 (by decide) rfl (vp_dec (by decide)) rfl rfl ?_)
    refine go_wp rfl (wq_iconst (v := 1) dX9_counted_25 (by decide) rfl ?_)
    refine go_wp rfl (wq_iadd (v := 1) dX9_counted_26 (by decide) rfl ?_)
    refine go_wp rfl (wq_iastore dX9_counted_27 rfl (vp_dec (by decide)) rfl rfl rfl ?_)
    refine go_wp rfl (wq_iload_n dX9_counted_28 rfl rfl ?_)
    refine go_wp rfl (wq_ireturn dX9_counted_29 trivial (ret_int ?_))
    refine go_wp rfl (wq_ireturn dX9_count_154 trivial (ret_int ?_))
    refine go_wp rfl (wq_aload_n dL_law_1503 rfl rfl ?_)
    refine go_wp rfl (wq_aload_n dL_law_1504 rfl rfl ?_)
    refine go_wp rfl (wq_iload_n dL_law_1505 rfl rfl ?_)
    refine go_wp rfl (wq_iconst (v := 1) dL_law_1506 (by decide) rfl ?_)
    refine go_wp rfl (wq_iadd (v := 1) dL_law_1507 (by decide) rfl ?_)
    refine go_wp rfl (wq_ialoadX (j := 3) (v := a) dL_law_1508 rfl rfl (vp_dec (by decide)) e1 rfl ?_)
    refine go_wp rfl (wq_virtual (a := 76) (av := [.ref 76, .int a]) (r := [.int (-1000000001)]) dL_law_1509 rfl (Nat.le_of_ble_eq_true rfl) rfl rfl rfl (Nat.le_of_ble_eq_true rfl) rfl rfl ?_)
    refine sp_in (lv := [some (.ref 76), some (.int a), none, none]) rfl (Nat.le_of_ble_eq_true rfl) rfl ?_
    refine wq_iconst (v := 0) dX10_count_0 (by decide) rfl ?_
    refine go_wp rfl (wq_istore_n (lv' := [some (.ref 76), some (.int a), some (.int 0), none]) dX10_count_1 ⟨Nat.le_of_ble_eq_true rfl, rfl⟩ rfl rfl ?_)
    refine go_wp rfl (wq_iload_n dX10_count_2 rfl rfl ?_)
    refine go_wp rfl (wq_table dX10_count_3 (by decide) (fun h2 => ?_) ⟨fun h2 => ?_, fun h2 => ?_, fun h2 => ?_, fun h2 => ?_, fun h2 => ?_, fun h2 => ?_, fun h2 => ?_, fun h2 => ?_, fun h2 => ?_, fun h2 => ?_, trivial⟩)
    · skip
      refine wq_to (t := 138) (by decide) ?_
      refine go_wp rfl (wq_aload_n dX10_count_138 rfl rfl ?_)
      refine go_wp rfl (wq_iconst (v := 1) dX10_count_139 (by decide) rfl ?_)
      refine go_wp rfl (wq_virtual (a := 76) (av := [.ref 76, .int 1]) (r := []) dX10_count_140 rfl (Nat.le_of_ble_eq_true rfl) rfl rfl rfl (Nat.le_of_ble_eq_true rfl) rfl rfl ?_)
      refine sp_in (lv := [some (.ref 76), some (.int 1)]) rfl (Nat.le_of_ble_eq_true rfl) rfl ?_
      refine wq_aload_n dX10_finding_0 rfl rfl ?_
      refine go_wp rfl (wq_getfield (v := .ref 114) dX10_finding_1 fe_X10_141 rfl rfl rfl ?_)
      refine go_wp rfl (wq_iload_n dX10_finding_4 rfl rfl ?_)
      refine go_wp rfl (wq_dup2 dX10_finding_5 rfl rfl rfl ?_)
      refine go_wp rfl (wq_iaload (v := 0) dX10_finding_6 (by decide) rfl (vp_dec (by decide)) rfl rfl ?_)
      refine go_wp rfl (wq_iconst (v := 1) dX10_finding_7 (by decide) rfl ?_)
      refine go_wp rfl (wq_iadd (v := 1) dX10_finding_8 (by decide) rfl ?_)
      refine go_wp rfl (wq_iastore dX10_finding_9 rfl (vp_dec (by decide)) rfl rfl rfl ?_)
      refine go_wp rfl (wq_ldc (v := (-1000000000)) dX10_finding_10 ce_X10_147 rfl ?_)
      refine go_wp rfl (wq_iload_n dX10_finding_12 rfl rfl ?_)
      refine go_wp rfl (wq_isub (v := (-1000000001)) dX10_finding_13 (by decide) rfl ?_)
      refine go_wp rfl (wq_ireturn dX10_finding_14 trivial (ret_int ?_))
      refine go_wp rfl (wq_ireturn dX10_count_143 trivial (ret_int ?_))
      refine go_wp rfl (wq_icmp_eq_t (t := 1540) dL_law_1512 (by decide) (by decide) ?_)
      refine go_wp rfl (wq_iinc (v := 5) (lv' := [some (.ref 1003), some (.ref 0), some (.ref 76), some (.int 5)]) dL_law_1540 rfl ⟨Nat.le_of_ble_eq_true rfl, rfl⟩ (by decide) rfl rfl ?_)
      refine go_wp rfl (wq_goto (t := 18) dL_law_1543 (by decide) ?_)
      exact go_cut rfl ⟨rfl, rfl⟩
    · skip
      exact absurd (h2.trans (by decide : _ = (0 : Int32))) (by simp only [Int32.lt_iff_toInt_lt, Int32.le_iff_toInt_le, ← Int32.toInt_inj, Int32.reduceToInt] at h1 ⊢; omega)
    · skip
      exact absurd (h2.trans (by decide : _ = (1 : Int32))) (by simp only [Int32.lt_iff_toInt_lt, Int32.le_iff_toInt_le, ← Int32.toInt_inj, Int32.reduceToInt] at h1 ⊢; omega)
    · skip
      exact absurd (h2.trans (by decide : _ = (2 : Int32))) (by simp only [Int32.lt_iff_toInt_lt, Int32.le_iff_toInt_le, ← Int32.toInt_inj, Int32.reduceToInt] at h1 ⊢; omega)
    · skip
      exact absurd (h2.trans (by decide : _ = (3 : Int32))) (by simp only [Int32.lt_iff_toInt_lt, Int32.le_iff_toInt_le, ← Int32.toInt_inj, Int32.reduceToInt] at h1 ⊢; omega)
    · skip
      exact absurd (h2.trans (by decide : _ = (4 : Int32))) (by simp only [Int32.lt_iff_toInt_lt, Int32.le_iff_toInt_le, ← Int32.toInt_inj, Int32.reduceToInt] at h1 ⊢; omega)
    · skip
      exact absurd (h2.trans (by decide : _ = (5 : Int32))) (by simp only [Int32.lt_iff_toInt_lt, Int32.le_iff_toInt_le, ← Int32.toInt_inj, Int32.reduceToInt] at h1 ⊢; omega)
    · skip
      exact absurd (h2.trans (by decide : _ = (6 : Int32))) (by simp only [Int32.lt_iff_toInt_lt, Int32.le_iff_toInt_le, ← Int32.toInt_inj, Int32.reduceToInt] at h1 ⊢; omega)
    · skip
      exact absurd (h2.trans (by decide : _ = (7 : Int32))) (by simp only [Int32.lt_iff_toInt_lt, Int32.le_iff_toInt_le, ← Int32.toInt_inj, Int32.reduceToInt] at h1 ⊢; omega)
    · skip
      exact absurd (h2.trans (by decide : _ = (8 : Int32))) (by simp only [Int32.lt_iff_toInt_lt, Int32.le_iff_toInt_le, ← Int32.toInt_inj, Int32.reduceToInt] at h1 ⊢; omega)
    · skip
      exact absurd (h2.trans (by decide : _ = (9 : Int32))) (by simp only [Int32.lt_iff_toInt_lt, Int32.le_iff_toInt_le, ← Int32.toInt_inj, Int32.reduceToInt] at h1 ⊢; omega)
  · skip
    have h3 : a = 0 := h1.trans (by decide)
    clear h1
    subst h3
    refine wq_to (t := 56) (by decide) ?_
    refine go_wp rfl (wq_aload_n dX9_count_56 rfl rfl ?_)
    refine go_wp rfl (wq_getfield (v := .ref 6) dX9_count_57 fe_X9_21 rfl rfl rfl ?_)
    refine go_wp rfl (wq_getfield (v := .ref 7) dX9_count_60 fe_X9_54 rfl rfl rfl ?_)
    refine go_wp rfl (wq_getfield (v := .int 0) dX9_count_63 fe_X9_254 rfl rfl rfl ?_)
    refine go_wp rfl (wq_ireturn dX9_count_66 trivial (ret_int ?_))
    refine go_wp rfl (wq_aload_n dL_law_1503 rfl rfl ?_)
    refine go_wp rfl (wq_aload_n dL_law_1504 rfl rfl ?_)
    refine go_wp rfl (wq_iload_n dL_law_1505 rfl rfl ?_)
    refine go_wp rfl (wq_iconst (v := 1) dL_law_1506 (by decide) rfl ?_)
    refine go_wp rfl (wq_iadd (v := 1) dL_law_1507 (by decide) rfl ?_)
    refine go_wp rfl (wq_ialoadX (j := 3) (v := 0) dL_law_1508 rfl rfl (vp_dec (by decide)) e1 rfl ?_)
    refine go_wp rfl (wq_virtual (a := 76) (av := [.ref 76, .int 0]) (r := [.int 0]) dL_law_1509 rfl (Nat.le_of_ble_eq_true rfl) rfl rfl rfl (Nat.le_of_ble_eq_true rfl) rfl rfl ?_)
    refine sp_in (lv := [some (.ref 76), some (.int 0), none, none]) rfl (Nat.le_of_ble_eq_true rfl) rfl ?_
    refine wq_iconst (v := 0) dX10_count_0 (by decide) rfl ?_
    refine go_wp rfl (wq_istore_n (lv' := [some (.ref 76), some (.int 0), some (.int 0), none]) dX10_count_1 ⟨Nat.le_of_ble_eq_true rfl, rfl⟩ rfl rfl ?_)
    refine go_wp rfl (wq_iload_n dX10_count_2 rfl rfl ?_)
    refine go_wp rfl (wq_table dX10_count_3 (by decide) (fun h4 => ?_) ⟨fun h4 => ?_, fun h4 => ?_, fun h4 => ?_, fun h4 => ?_, fun h4 => ?_, fun h4 => ?_, fun h4 => ?_, fun h4 => ?_, fun h4 => ?_, fun h4 => ?_, trivial⟩)
    · skip
      exact absurd h4 (by decide)
    · skip
      refine wq_to (t := 56) (by decide) ?_
      refine go_wp rfl (wq_aload_n dX10_count_56 rfl rfl ?_)
      refine go_wp rfl (wq_getfield (v := .int 0) dX10_count_57 fe_X10_148 rfl rfl rfl ?_)
      refine go_wp rfl (wq_ireturn dX10_count_60 trivial (ret_int ?_))
      refine go_wp rfl (wq_icmp_eq_t (t := 1540) dL_law_1512 (by decide) (by decide) ?_)
      refine go_wp rfl (wq_iinc (v := 5) (lv' := [some (.ref 1003), some (.ref 0), some (.ref 76), some (.int 5)]) dL_law_1540 rfl ⟨Nat.le_of_ble_eq_true rfl, rfl⟩ (by decide) rfl rfl ?_)
      refine go_wp rfl (wq_goto (t := 18) dL_law_1543 (by decide) ?_)
      exact go_cut rfl ⟨rfl, rfl⟩
    · skip
      exact absurd h4 (by decide)
    · skip
      exact absurd h4 (by decide)
    · skip
      exact absurd h4 (by decide)
    · skip
      exact absurd h4 (by decide)
    · skip
      exact absurd h4 (by decide)
    · skip
      exact absurd h4 (by decide)
    · skip
      exact absurd h4 (by decide)
    · skip
      exact absurd h4 (by decide)
    · skip
      exact absurd h4 (by decide)
  · skip
    have h5 : a = 1 := h1.trans (by decide)
    clear h1
    subst h5
    refine wq_to (t := 67) (by decide) ?_
    refine go_wp rfl (wq_aload_n dX9_count_67 rfl rfl ?_)
    refine go_wp rfl (wq_getfield (v := .ref 6) dX9_count_68 fe_X9_21 rfl rfl rfl ?_)
    refine go_wp rfl (wq_getfield (v := .ref 7) dX9_count_71 fe_X9_54 rfl rfl rfl ?_)
    refine go_wp rfl (wq_getfield (v := .int 0) dX9_count_74 fe_X9_257 rfl rfl rfl ?_)
    refine go_wp rfl (wq_ireturn dX9_count_77 trivial (ret_int ?_))
    refine go_wp rfl (wq_aload_n dL_law_1503 rfl rfl ?_)
    refine go_wp rfl (wq_aload_n dL_law_1504 rfl rfl ?_)
    refine go_wp rfl (wq_iload_n dL_law_1505 rfl rfl ?_)
    refine go_wp rfl (wq_iconst (v := 1) dL_law_1506 (by decide) rfl ?_)
    refine go_wp rfl (wq_iadd (v := 1) dL_law_1507 (by decide) rfl ?_)
    refine go_wp rfl (wq_ialoadX (j := 3) (v := 1) dL_law_1508 rfl rfl (vp_dec (by decide)) e1 rfl ?_)
    refine go_wp rfl (wq_virtual (a := 76) (av := [.ref 76, .int 1]) (r := [.int 0]) dL_law_1509 rfl (Nat.le_of_ble_eq_true rfl) rfl rfl rfl (Nat.le_of_ble_eq_true rfl) rfl rfl ?_)
    refine sp_in (lv := [some (.ref 76), some (.int 1), none, none]) rfl (Nat.le_of_ble_eq_true rfl) rfl ?_
    refine wq_iconst (v := 0) dX10_count_0 (by decide) rfl ?_
    refine go_wp rfl (wq_istore_n (lv' := [some (.ref 76), some (.int 1), some (.int 0), none]) dX10_count_1 ⟨Nat.le_of_ble_eq_true rfl, rfl⟩ rfl rfl ?_)
    refine go_wp rfl (wq_iload_n dX10_count_2 rfl rfl ?_)
    refine go_wp rfl (wq_table dX10_count_3 (by decide) (fun h6 => ?_) ⟨fun h6 => ?_, fun h6 => ?_, fun h6 => ?_, fun h6 => ?_, fun h6 => ?_, fun h6 => ?_, fun h6 => ?_, fun h6 => ?_, fun h6 => ?_, fun h6 => ?_, trivial⟩)
    · skip
      exact absurd h6 (by decide)
    · skip
      exact absurd h6 (by decide)
    · skip
      refine wq_to (t := 61) (by decide) ?_
      refine go_wp rfl (wq_aload_n dX10_count_61 rfl rfl ?_)
      refine go_wp rfl (wq_getfield (v := .int 0) dX10_count_62 fe_X10_151 rfl rfl rfl ?_)
      refine go_wp rfl (wq_ireturn dX10_count_65 trivial (ret_int ?_))
      refine go_wp rfl (wq_icmp_eq_t (t := 1540) dL_law_1512 (by decide) (by decide) ?_)
      refine go_wp rfl (wq_iinc (v := 5) (lv' := [some (.ref 1003), some (.ref 0), some (.ref 76), some (.int 5)]) dL_law_1540 rfl ⟨Nat.le_of_ble_eq_true rfl, rfl⟩ (by decide) rfl rfl ?_)
      refine go_wp rfl (wq_goto (t := 18) dL_law_1543 (by decide) ?_)
      exact go_cut rfl ⟨rfl, rfl⟩
    · skip
      exact absurd h6 (by decide)
    · skip
      exact absurd h6 (by decide)
    · skip
      exact absurd h6 (by decide)
    · skip
      exact absurd h6 (by decide)
    · skip
      exact absurd h6 (by decide)
    · skip
      exact absurd h6 (by decide)
    · skip
      exact absurd h6 (by decide)
    · skip
      exact absurd h6 (by decide)
  · skip
    have h7 : a = 2 := h1.trans (by decide)
    clear h1
    subst h7
    refine wq_to (t := 78) (by decide) ?_
    refine go_wp rfl (wq_aload_n dX9_count_78 rfl rfl ?_)
    refine go_wp rfl (wq_getfield (v := .ref 6) dX9_count_79 fe_X9_21 rfl rfl rfl ?_)
    refine go_wp rfl (wq_getfield (v := .ref 14) dX9_count_82 fe_X9_93 rfl rfl rfl ?_)
    refine go_wp rfl (wq_getfield (v := .int 0) dX9_count_85 fe_X9_260 rfl rfl rfl ?_)
    refine go_wp rfl (wq_ireturn dX9_count_88 trivial (ret_int ?_))
    refine go_wp rfl (wq_aload_n dL_law_1503 rfl rfl ?_)
    refine go_wp rfl (wq_aload_n dL_law_1504 rfl rfl ?_)
    refine go_wp rfl (wq_iload_n dL_law_1505 rfl rfl ?_)
    refine go_wp rfl (wq_iconst (v := 1) dL_law_1506 (by decide) rfl ?_)
    refine go_wp rfl (wq_iadd (v := 1) dL_law_1507 (by decide) rfl ?_)
    refine go_wp rfl (wq_ialoadX (j := 3) (v := 2) dL_law_1508 rfl rfl (vp_dec (by decide)) e1 rfl ?_)
    refine go_wp rfl (wq_virtual (a := 76) (av := [.ref 76, .int 2]) (r := [.int 0]) dL_law_1509 rfl (Nat.le_of_ble_eq_true rfl) rfl rfl rfl (Nat.le_of_ble_eq_true rfl) rfl rfl ?_)
    refine sp_in (lv := [some (.ref 76), some (.int 2), none, none]) rfl (Nat.le_of_ble_eq_true rfl) rfl ?_
    refine wq_iconst (v := 0) dX10_count_0 (by decide) rfl ?_
    refine go_wp rfl (wq_istore_n (lv' := [some (.ref 76), some (.int 2), some (.int 0), none]) dX10_count_1 ⟨Nat.le_of_ble_eq_true rfl, rfl⟩ rfl rfl ?_)
    refine go_wp rfl (wq_iload_n dX10_count_2 rfl rfl ?_)
    refine go_wp rfl (wq_table dX10_count_3 (by decide) (fun h8 => ?_) ⟨fun h8 => ?_, fun h8 => ?_, fun h8 => ?_, fun h8 => ?_, fun h8 => ?_, fun h8 => ?_, fun h8 => ?_, fun h8 => ?_, fun h8 => ?_, fun h8 => ?_, trivial⟩)
    · skip
      exact absurd h8 (by decide)
    · skip
      exact absurd h8 (by decide)
    · skip
      exact absurd h8 (by decide)
    · skip
      refine wq_to (t := 66) (by decide) ?_
      refine go_wp rfl (wq_aload_n dX10_count_66 rfl rfl ?_)
      refine go_wp rfl (wq_getfield (v := .int 0) dX10_count_67 fe_X10_154 rfl rfl rfl ?_)
      refine go_wp rfl (wq_ireturn dX10_count_70 trivial (ret_int ?_))
      refine go_wp rfl (wq_icmp_eq_t (t := 1540) dL_law_1512 (by decide) (by decide) ?_)
      refine go_wp rfl (wq_iinc (v := 5) (lv' := [some (.ref 1003), some (.ref 0), some (.ref 76), some (.int 5)]) dL_law_1540 rfl ⟨Nat.le_of_ble_eq_true rfl, rfl⟩ (by decide) rfl rfl ?_)
      refine go_wp rfl (wq_goto (t := 18) dL_law_1543 (by decide) ?_)
      exact go_cut rfl ⟨rfl, rfl⟩
    · skip
      exact absurd h8 (by decide)
    · skip
      exact absurd h8 (by decide)
    · skip
      exact absurd h8 (by decide)
    · skip
      exact absurd h8 (by decide)
    · skip
      exact absurd h8 (by decide)
    · skip
      exact absurd h8 (by decide)
    · skip
      exact absurd h8 (by decide)
  · skip
    have h9 : a = 3 := h1.trans (by decide)
    clear h1
    subst h9
    refine wq_to (t := 89) (by decide) ?_
    refine go_wp rfl (wq_aload_n dX9_count_89 rfl rfl ?_)
    refine go_wp rfl (wq_getfield (v := .ref 6) dX9_count_90 fe_X9_21 rfl rfl rfl ?_)
    refine go_wp rfl (wq_getfield (v := .ref 21) dX9_count_93 fe_X9_111 rfl rfl rfl ?_)
    refine go_wp rfl (wq_getfield (v := .int 0) dX9_count_96 fe_X9_263 rfl rfl rfl ?_)
    refine go_wp rfl (wq_ireturn dX9_count_99 trivial (ret_int ?_))
    refine go_wp rfl (wq_aload_n dL_law_1503 rfl rfl ?_)
    refine go_wp rfl (wq_aload_n dL_law_1504 rfl rfl ?_)
    refine go_wp rfl (wq_iload_n dL_law_1505 rfl rfl ?_)
    refine go_wp rfl (wq_iconst (v := 1) dL_law_1506 (by decide) rfl ?_)
    refine go_wp rfl (wq_iadd (v := 1) dL_law_1507 (by decide) rfl ?_)
    refine go_wp rfl (wq_ialoadX (j := 3) (v := 3) dL_law_1508 rfl rfl (vp_dec (by decide)) e1 rfl ?_)
    refine go_wp rfl (wq_virtual (a := 76) (av := [.ref 76, .int 3]) (r := [.int 0]) dL_law_1509 rfl (Nat.le_of_ble_eq_true rfl) rfl rfl rfl (Nat.le_of_ble_eq_true rfl) rfl rfl ?_)
    refine sp_in (lv := [some (.ref 76), some (.int 3), none, none]) rfl (Nat.le_of_ble_eq_true rfl) rfl ?_
    refine wq_iconst (v := 0) dX10_count_0 (by decide) rfl ?_
    refine go_wp rfl (wq_istore_n (lv' := [some (.ref 76), some (.int 3), some (.int 0), none]) dX10_count_1 ⟨Nat.le_of_ble_eq_true rfl, rfl⟩ rfl rfl ?_)
    refine go_wp rfl (wq_iload_n dX10_count_2 rfl rfl ?_)
    refine go_wp rfl (wq_table dX10_count_3 (by decide) (fun h10 => ?_) ⟨fun h10 => ?_, fun h10 => ?_, fun h10 => ?_, fun h10 => ?_, fun h10 => ?_, fun h10 => ?_, fun h10 => ?_, fun h10 => ?_, fun h10 => ?_, fun h10 => ?_, trivial⟩)
    · skip
      exact absurd h10 (by decide)
    · skip
      exact absurd h10 (by decide)
    · skip
      exact absurd h10 (by decide)
    · skip
      exact absurd h10 (by decide)
    · skip
      refine wq_to (t := 71) (by decide) ?_
      refine go_wp rfl (wq_aload_n dX10_count_71 rfl rfl ?_)
      refine go_wp rfl (wq_getfield (v := .int 0) dX10_count_72 fe_X10_157 rfl rfl rfl ?_)
      refine go_wp rfl (wq_ireturn dX10_count_75 trivial (ret_int ?_))
      refine go_wp rfl (wq_icmp_eq_t (t := 1540) dL_law_1512 (by decide) (by decide) ?_)
      refine go_wp rfl (wq_iinc (v := 5) (lv' := [some (.ref 1003), some (.ref 0), some (.ref 76), some (.int 5)]) dL_law_1540 rfl ⟨Nat.le_of_ble_eq_true rfl, rfl⟩ (by decide) rfl rfl ?_)
      refine go_wp rfl (wq_goto (t := 18) dL_law_1543 (by decide) ?_)
      exact go_cut rfl ⟨rfl, rfl⟩
    · skip
      exact absurd h10 (by decide)
    · skip
      exact absurd h10 (by decide)
    · skip
      exact absurd h10 (by decide)
    · skip
      exact absurd h10 (by decide)
    · skip
      exact absurd h10 (by decide)
    · skip
      exact absurd h10 (by decide)
  · skip
    have h11 : a = 4 := h1.trans (by decide)
    clear h1
    subst h11
    refine wq_to (t := 100) (by decide) ?_
    refine go_wp rfl (wq_aload_n dX9_count_100 rfl rfl ?_)
    refine go_wp rfl (wq_getfield (v := .ref 6) dX9_count_101 fe_X9_21 rfl rfl rfl ?_)
    refine go_wp rfl (wq_getfield (v := .int 0) dX9_count_104 fe_X9_152 rfl rfl rfl ?_)
    refine go_wp rfl (wq_ireturn dX9_count_107 trivial (ret_int ?_))
    refine go_wp rfl (wq_aload_n dL_law_1503 rfl rfl ?_)
    refine go_wp rfl (wq_aload_n dL_law_1504 rfl rfl ?_)
    refine go_wp rfl (wq_iload_n dL_law_1505 rfl rfl ?_)
    refine go_wp rfl (wq_iconst (v := 1) dL_law_1506 (by decide) rfl ?_)
    refine go_wp rfl (wq_iadd (v := 1) dL_law_1507 (by decide) rfl ?_)
    refine go_wp rfl (wq_ialoadX (j := 3) (v := 4) dL_law_1508 rfl rfl (vp_dec (by decide)) e1 rfl ?_)
    refine go_wp rfl (wq_virtual (a := 76) (av := [.ref 76, .int 4]) (r := [.int 0]) dL_law_1509 rfl (Nat.le_of_ble_eq_true rfl) rfl rfl rfl (Nat.le_of_ble_eq_true rfl) rfl rfl ?_)
    refine sp_in (lv := [some (.ref 76), some (.int 4), none, none]) rfl (Nat.le_of_ble_eq_true rfl) rfl ?_
    refine wq_iconst (v := 0) dX10_count_0 (by decide) rfl ?_
    refine go_wp rfl (wq_istore_n (lv' := [some (.ref 76), some (.int 4), some (.int 0), none]) dX10_count_1 ⟨Nat.le_of_ble_eq_true rfl, rfl⟩ rfl rfl ?_)
    refine go_wp rfl (wq_iload_n dX10_count_2 rfl rfl ?_)
    refine go_wp rfl (wq_table dX10_count_3 (by decide) (fun h12 => ?_) ⟨fun h12 => ?_, fun h12 => ?_, fun h12 => ?_, fun h12 => ?_, fun h12 => ?_, fun h12 => ?_, fun h12 => ?_, fun h12 => ?_, fun h12 => ?_, fun h12 => ?_, trivial⟩)
    · skip
      exact absurd h12 (by decide)
    · skip
      exact absurd h12 (by decide)
    · skip
      exact absurd h12 (by decide)
    · skip
      exact absurd h12 (by decide)
    · skip
      exact absurd h12 (by decide)
    · skip
      refine wq_to (t := 76) (by decide) ?_
      refine go_wp rfl (wq_aload_n dX10_count_76 rfl rfl ?_)
      refine go_wp rfl (wq_getfield (v := .ref 101) dX10_count_77 fe_X10_82 rfl rfl rfl ?_)
      refine go_wp rfl (wq_iconst (v := 0) dX10_count_80 (by decide) rfl ?_)
      refine go_wp rfl (wq_iaload (v := 0) dX10_count_81 (by decide) rfl (vp_dec (by decide)) rfl rfl ?_)
      refine go_wp rfl (wq_ireturn dX10_count_82 trivial (ret_int ?_))
      refine go_wp rfl (wq_icmp_eq_t (t := 1540) dL_law_1512 (by decide) (by decide) ?_)
      refine go_wp rfl (wq_iinc (v := 5) (lv' := [some (.ref 1003), some (.ref 0), some (.ref 76), some (.int 5)]) dL_law_1540 rfl ⟨Nat.le_of_ble_eq_true rfl, rfl⟩ (by decide) rfl rfl ?_)
      refine go_wp rfl (wq_goto (t := 18) dL_law_1543 (by decide) ?_)
      exact go_cut rfl ⟨rfl, rfl⟩
    · skip
      exact absurd h12 (by decide)
    · skip
      exact absurd h12 (by decide)
    · skip
      exact absurd h12 (by decide)
    · skip
      exact absurd h12 (by decide)
    · skip
      exact absurd h12 (by decide)
  · skip
    have h13 : a = 5 := h1.trans (by decide)
    clear h1
    subst h13
    refine wq_to (t := 108) (by decide) ?_
    refine go_wp rfl (wq_aload_n dX9_count_108 rfl rfl ?_)
    refine go_wp rfl (wq_getfield (v := .ref 1) dX9_count_109 fe_X9_12 rfl rfl rfl ?_)
    refine go_wp rfl (wq_getfield (v := .int 0) dX9_count_112 fe_X9_181 rfl rfl rfl ?_)
    refine go_wp rfl (wq_ireturn dX9_count_115 trivial (ret_int ?_))
    refine go_wp rfl (wq_aload_n dL_law_1503 rfl rfl ?_)
    refine go_wp rfl (wq_aload_n dL_law_1504 rfl rfl ?_)
    refine go_wp rfl (wq_iload_n dL_law_1505 rfl rfl ?_)
    refine go_wp rfl (wq_iconst (v := 1) dL_law_1506 (by decide) rfl ?_)
    refine go_wp rfl (wq_iadd (v := 1) dL_law_1507 (by decide) rfl ?_)
    refine go_wp rfl (wq_ialoadX (j := 3) (v := 5) dL_law_1508 rfl rfl (vp_dec (by decide)) e1 rfl ?_)
    refine go_wp rfl (wq_virtual (a := 76) (av := [.ref 76, .int 5]) (r := [.int 0]) dL_law_1509 rfl (Nat.le_of_ble_eq_true rfl) rfl rfl rfl (Nat.le_of_ble_eq_true rfl) rfl rfl ?_)
    refine sp_in (lv := [some (.ref 76), some (.int 5), none, none]) rfl (Nat.le_of_ble_eq_true rfl) rfl ?_
    refine wq_iconst (v := 0) dX10_count_0 (by decide) rfl ?_
    refine go_wp rfl (wq_istore_n (lv' := [some (.ref 76), some (.int 5), some (.int 0), none]) dX10_count_1 ⟨Nat.le_of_ble_eq_true rfl, rfl⟩ rfl rfl ?_)
    refine go_wp rfl (wq_iload_n dX10_count_2 rfl rfl ?_)
    refine go_wp rfl (wq_table dX10_count_3 (by decide) (fun h14 => ?_) ⟨fun h14 => ?_, fun h14 => ?_, fun h14 => ?_, fun h14 => ?_, fun h14 => ?_, fun h14 => ?_, fun h14 => ?_, fun h14 => ?_, fun h14 => ?_, fun h14 => ?_, trivial⟩)
    · skip
      exact absurd h14 (by decide)
    · skip
      exact absurd h14 (by decide)
    · skip
      exact absurd h14 (by decide)
    · skip
      exact absurd h14 (by decide)
    · skip
      exact absurd h14 (by decide)
    · skip
      exact absurd h14 (by decide)
    · skip
      refine wq_to (t := 83) (by decide) ?_
      refine go_wp rfl (wq_aload_n dX10_count_83 rfl rfl ?_)
      refine go_wp rfl (wq_getfield (v := .int 0) dX10_count_84 fe_X10_209 rfl rfl rfl ?_)
      refine go_wp rfl (wq_ireturn dX10_count_87 trivial (ret_int ?_))
      refine go_wp rfl (wq_icmp_eq_t (t := 1540) dL_law_1512 (by decide) (by decide) ?_)
      refine go_wp rfl (wq_iinc (v := 5) (lv' := [some (.ref 1003), some (.ref 0), some (.ref 76), some (.int 5)]) dL_law_1540 rfl ⟨Nat.le_of_ble_eq_true rfl, rfl⟩ (by decide) rfl rfl ?_)
      refine go_wp rfl (wq_goto (t := 18) dL_law_1543 (by decide) ?_)
      exact go_cut rfl ⟨rfl, rfl⟩
    · skip
      exact absurd h14 (by decide)
    · skip
      exact absurd h14 (by decide)
    · skip
      exact absurd h14 (by decide)
    · skip
      exact absurd h14 (by decide)
  · skip
    have h15 : a = 6 := h1.trans (by decide)
    clear h1
    subst h15
    refine wq_to (t := 116) (by decide) ?_
    refine go_wp rfl (wq_aload_n dX9_count_116 rfl rfl ?_)
    refine go_wp rfl (wq_getfield (v := .ref 66) dX9_count_117 fe_X9_38 rfl rfl rfl ?_)
    refine go_wp rfl (wq_getfield (v := .int 0) dX9_count_120 fe_X9_266 rfl rfl rfl ?_)
    refine go_wp rfl (wq_ireturn dX9_count_123 trivial (ret_int ?_))
    refine go_wp rfl (wq_aload_n dL_law_1503 rfl rfl ?_)
    refine go_wp rfl (wq_aload_n dL_law_1504 rfl rfl ?_)
    refine go_wp rfl (wq_iload_n dL_law_1505 rfl rfl ?_)
    refine go_wp rfl (wq_iconst (v := 1) dL_law_1506 (by decide) rfl ?_)
    refine go_wp rfl (wq_iadd (v := 1) dL_law_1507 (by decide) rfl ?_)
    refine go_wp rfl (wq_ialoadX (j := 3) (v := 6) dL_law_1508 rfl rfl (vp_dec (by decide)) e1 rfl ?_)
    refine go_wp rfl (wq_virtual (a := 76) (av := [.ref 76, .int 6]) (r := [.int 0]) dL_law_1509 rfl (Nat.le_of_ble_eq_true rfl) rfl rfl rfl (Nat.le_of_ble_eq_true rfl) rfl rfl ?_)
    refine sp_in (lv := [some (.ref 76), some (.int 6), none, none]) rfl (Nat.le_of_ble_eq_true rfl) rfl ?_
    refine wq_iconst (v := 0) dX10_count_0 (by decide) rfl ?_
    refine go_wp rfl (wq_istore_n (lv' := [some (.ref 76), some (.int 6), some (.int 0), none]) dX10_count_1 ⟨Nat.le_of_ble_eq_true rfl, rfl⟩ rfl rfl ?_)
    refine go_wp rfl (wq_iload_n dX10_count_2 rfl rfl ?_)
    refine go_wp rfl (wq_table dX10_count_3 (by decide) (fun h16 => ?_) ⟨fun h16 => ?_, fun h16 => ?_, fun h16 => ?_, fun h16 => ?_, fun h16 => ?_, fun h16 => ?_, fun h16 => ?_, fun h16 => ?_, fun h16 => ?_, fun h16 => ?_, trivial⟩)
    · skip
      exact absurd h16 (by decide)
    · skip
      exact absurd h16 (by decide)
    · skip
      exact absurd h16 (by decide)
    · skip
      exact absurd h16 (by decide)
    · skip
      exact absurd h16 (by decide)
    · skip
      exact absurd h16 (by decide)
    · skip
      exact absurd h16 (by decide)
    · skip
      refine wq_to (t := 88) (by decide) ?_
      refine go_wp rfl (wq_aload_n dX10_count_88 rfl rfl ?_)
      refine go_wp rfl (wq_getfield (v := .int 0) dX10_count_89 fe_X10_289 rfl rfl rfl ?_)
      refine go_wp rfl (wq_ireturn dX10_count_92 trivial (ret_int ?_))
      refine go_wp rfl (wq_icmp_eq_t (t := 1540) dL_law_1512 (by decide) (by decide) ?_)
      refine go_wp rfl (wq_iinc (v := 5) (lv' := [some (.ref 1003), some (.ref 0), some (.ref 76), some (.int 5)]) dL_law_1540 rfl ⟨Nat.le_of_ble_eq_true rfl, rfl⟩ (by decide) rfl rfl ?_)
      refine go_wp rfl (wq_goto (t := 18) dL_law_1543 (by decide) ?_)
      exact go_cut rfl ⟨rfl, rfl⟩
    · skip
      exact absurd h16 (by decide)
    · skip
      exact absurd h16 (by decide)
    · skip
      exact absurd h16 (by decide)
  · skip
    have h17 : a = 7 := h1.trans (by decide)
    clear h1
    subst h17
    refine wq_to (t := 124) (by decide) ?_
    refine go_wp rfl (wq_aload_n dX9_count_124 rfl rfl ?_)
    refine go_wp rfl (wq_getfield (v := .ref 66) dX9_count_125 fe_X9_38 rfl rfl rfl ?_)
    refine go_wp rfl (wq_getfield (v := .int 0) dX9_count_128 fe_X9_269 rfl rfl rfl ?_)
    refine go_wp rfl (wq_ireturn dX9_count_131 trivial (ret_int ?_))
    refine go_wp rfl (wq_aload_n dL_law_1503 rfl rfl ?_)
    refine go_wp rfl (wq_aload_n dL_law_1504 rfl rfl ?_)
    refine go_wp rfl (wq_iload_n dL_law_1505 rfl rfl ?_)
    refine go_wp rfl (wq_iconst (v := 1) dL_law_1506 (by decide) rfl ?_)
    refine go_wp rfl (wq_iadd (v := 1) dL_law_1507 (by decide) rfl ?_)
    refine go_wp rfl (wq_ialoadX (j := 3) (v := 7) dL_law_1508 rfl rfl (vp_dec (by decide)) e1 rfl ?_)
    refine go_wp rfl (wq_virtual (a := 76) (av := [.ref 76, .int 7]) (r := [.int 0]) dL_law_1509 rfl (Nat.le_of_ble_eq_true rfl) rfl rfl rfl (Nat.le_of_ble_eq_true rfl) rfl rfl ?_)
    refine sp_in (lv := [some (.ref 76), some (.int 7), none, none]) rfl (Nat.le_of_ble_eq_true rfl) rfl ?_
    refine wq_iconst (v := 0) dX10_count_0 (by decide) rfl ?_
    refine go_wp rfl (wq_istore_n (lv' := [some (.ref 76), some (.int 7), some (.int 0), none]) dX10_count_1 ⟨Nat.le_of_ble_eq_true rfl, rfl⟩ rfl rfl ?_)
    refine go_wp rfl (wq_iload_n dX10_count_2 rfl rfl ?_)
    refine go_wp rfl (wq_table dX10_count_3 (by decide) (fun h18 => ?_) ⟨fun h18 => ?_, fun h18 => ?_, fun h18 => ?_, fun h18 => ?_, fun h18 => ?_, fun h18 => ?_, fun h18 => ?_, fun h18 => ?_, fun h18 => ?_, fun h18 => ?_, trivial⟩)
    · skip
      exact absurd h18 (by decide)
    · skip
      exact absurd h18 (by decide)
    · skip
      exact absurd h18 (by decide)
    · skip
      exact absurd h18 (by decide)
    · skip
      exact absurd h18 (by decide)
    · skip
      exact absurd h18 (by decide)
    · skip
      exact absurd h18 (by decide)
    · skip
      exact absurd h18 (by decide)
    · skip
      refine wq_to (t := 93) (by decide) ?_
      refine go_wp rfl (wq_aload_n dX10_count_93 rfl rfl ?_)
      refine go_wp rfl (wq_getfield (v := .int 0) dX10_count_94 fe_X10_292 rfl rfl rfl ?_)
      refine go_wp rfl (wq_ireturn dX10_count_97 trivial (ret_int ?_))
      refine go_wp rfl (wq_icmp_eq_t (t := 1540) dL_law_1512 (by decide) (by decide) ?_)
      refine go_wp rfl (wq_iinc (v := 5) (lv' := [some (.ref 1003), some (.ref 0), some (.ref 76), some (.int 5)]) dL_law_1540 rfl ⟨Nat.le_of_ble_eq_true rfl, rfl⟩ (by decide) rfl rfl ?_)
      refine go_wp rfl (wq_goto (t := 18) dL_law_1543 (by decide) ?_)
      exact go_cut rfl ⟨rfl, rfl⟩
    · skip
      exact absurd h18 (by decide)
    · skip
      exact absurd h18 (by decide)
  · skip
    have h19 : a = 8 := h1.trans (by decide)
    clear h1
    subst h19
    refine wq_to (t := 132) (by decide) ?_
    refine go_wp rfl (wq_aload_n dX9_count_132 rfl rfl ?_)
    refine go_wp rfl (wq_getfield (v := .int 0) dX9_count_133 fe_X9_245 rfl rfl rfl ?_)
    refine go_wp rfl (wq_ireturn dX9_count_136 trivial (ret_int ?_))
    refine go_wp rfl (wq_aload_n dL_law_1503 rfl rfl ?_)
    refine go_wp rfl (wq_aload_n dL_law_1504 rfl rfl ?_)
    refine go_wp rfl (wq_iload_n dL_law_1505 rfl rfl ?_)
    refine go_wp rfl (wq_iconst (v := 1) dL_law_1506 (by decide) rfl ?_)
    refine go_wp rfl (wq_iadd (v := 1) dL_law_1507 (by decide) rfl ?_)
    refine go_wp rfl (wq_ialoadX (j := 3) (v := 8) dL_law_1508 rfl rfl (vp_dec (by decide)) e1 rfl ?_)
    refine go_wp rfl (wq_virtual (a := 76) (av := [.ref 76, .int 8]) (r := [.int 0]) dL_law_1509 rfl (Nat.le_of_ble_eq_true rfl) rfl rfl rfl (Nat.le_of_ble_eq_true rfl) rfl rfl ?_)
    refine sp_in (lv := [some (.ref 76), some (.int 8), none, none]) rfl (Nat.le_of_ble_eq_true rfl) rfl ?_
    refine wq_iconst (v := 0) dX10_count_0 (by decide) rfl ?_
    refine go_wp rfl (wq_istore_n (lv' := [some (.ref 76), some (.int 8), some (.int 0), none]) dX10_count_1 ⟨Nat.le_of_ble_eq_true rfl, rfl⟩ rfl rfl ?_)
    refine go_wp rfl (wq_iload_n dX10_count_2 rfl rfl ?_)
    refine go_wp rfl (wq_table dX10_count_3 (by decide) (fun h20 => ?_) ⟨fun h20 => ?_, fun h20 => ?_, fun h20 => ?_, fun h20 => ?_, fun h20 => ?_, fun h20 => ?_, fun h20 => ?_, fun h20 => ?_, fun h20 => ?_, fun h20 => ?_, trivial⟩)
    · skip
      exact absurd h20 (by decide)
    · skip
      exact absurd h20 (by decide)
    · skip
      exact absurd h20 (by decide)
    · skip
      exact absurd h20 (by decide)
    · skip
      exact absurd h20 (by decide)
    · skip
      exact absurd h20 (by decide)
    · skip
      exact absurd h20 (by decide)
    · skip
      exact absurd h20 (by decide)
    · skip
      exact absurd h20 (by decide)
    · skip
      refine wq_to (t := 98) (by decide) ?_
      refine go_wp rfl (wq_aload_n dX10_count_98 rfl rfl ?_)
      refine go_wp rfl (wq_getfield (v := .int 0) dX10_count_99 fe_X10_302 rfl rfl rfl ?_)
      refine go_wp rfl (wq_ireturn dX10_count_102 trivial (ret_int ?_))
      refine go_wp rfl (wq_icmp_eq_t (t := 1540) dL_law_1512 (by decide) (by decide) ?_)
      refine go_wp rfl (wq_iinc (v := 5) (lv' := [some (.ref 1003), some (.ref 0), some (.ref 76), some (.int 5)]) dL_law_1540 rfl ⟨Nat.le_of_ble_eq_true rfl, rfl⟩ (by decide) rfl rfl ?_)
      refine go_wp rfl (wq_goto (t := 18) dL_law_1543 (by decide) ?_)
      exact go_cut rfl ⟨rfl, rfl⟩
    · skip
      exact absurd h20 (by decide)
  · skip
    have h21 : a = 9 := h1.trans (by decide)
    clear h1
    subst h21
    refine wq_to (t := 137) (by decide) ?_
    refine go_wp rfl (wq_aload_n dX9_count_137 rfl rfl ?_)
    refine go_wp rfl (wq_getfield (v := .ref 6) dX9_count_138 fe_X9_21 rfl rfl rfl ?_)
    refine go_wp rfl (wq_getfield (v := .ref 14) dX9_count_141 fe_X9_93 rfl rfl rfl ?_)
    refine go_wp rfl (wq_virtual (a := 14) (av := [.ref 14]) (r := []) dX9_count_144 rfl (Nat.le_of_ble_eq_true rfl) rfl rfl rfl (Nat.le_of_ble_eq_true rfl) rfl rfl ?_)
    refine sp_in (lv := [some (.ref 14), none, none]) rfl (Nat.le_of_ble_eq_true rfl) rfl ?_
    refine wq_iconst (v := 0) dX3_menders_0 (by decide) rfl ?_
    refine go_wp rfl (wq_istore_n (lv' := [some (.ref 14), some (.int 0), none]) dX3_menders_1 ⟨Nat.le_of_ble_eq_true rfl, rfl⟩ rfl rfl ?_)
    refine go_wp rfl (wq_iconst (v := 0) dX3_menders_2 (by decide) rfl ?_)
    refine go_wp rfl (wq_istore_n (lv' := [some (.ref 14), some (.int 0), some (.int 0)]) dX3_menders_3 ⟨Nat.le_of_ble_eq_true rfl, rfl⟩ rfl rfl ?_)
    refine go_wp rfl (wq_iload_n dX3_menders_4 rfl rfl ?_)
    refine go_wp rfl (wq_aload_n dX3_menders_5 rfl rfl ?_)
    refine go_wp rfl (wq_getfield (v := .int 0) dX3_menders_6 fe_X3_34 rfl rfl rfl ?_)
    refine go_wp rfl (wq_icmp_ge_t (t := 29) dX3_menders_9 (by decide) (by decide) ?_)
    refine go_wp rfl (wq_iload_n dX3_menders_29 rfl rfl ?_)
    refine go_wp rfl (wq_ireturn dX3_menders_30 trivial (ret_int ?_))
    refine go_wp rfl (wq_ireturn dX9_count_147 trivial (ret_int ?_))
    refine go_wp rfl (wq_aload_n dL_law_1503 rfl rfl ?_)
    refine go_wp rfl (wq_aload_n dL_law_1504 rfl rfl ?_)
    refine go_wp rfl (wq_iload_n dL_law_1505 rfl rfl ?_)
    refine go_wp rfl (wq_iconst (v := 1) dL_law_1506 (by decide) rfl ?_)
    refine go_wp rfl (wq_iadd (v := 1) dL_law_1507 (by decide) rfl ?_)
    refine go_wp rfl (wq_ialoadX (j := 3) (v := 9) dL_law_1508 rfl rfl (vp_dec (by decide)) e1 rfl ?_)
    refine go_wp rfl (wq_virtual (a := 76) (av := [.ref 76, .int 9]) (r := [.int 0]) dL_law_1509 rfl (Nat.le_of_ble_eq_true rfl) rfl rfl rfl (Nat.le_of_ble_eq_true rfl) rfl rfl ?_)
    refine sp_in (lv := [some (.ref 76), some (.int 9), none, none]) rfl (Nat.le_of_ble_eq_true rfl) rfl ?_
    refine wq_iconst (v := 0) dX10_count_0 (by decide) rfl ?_
    refine go_wp rfl (wq_istore_n (lv' := [some (.ref 76), some (.int 9), some (.int 0), none]) dX10_count_1 ⟨Nat.le_of_ble_eq_true rfl, rfl⟩ rfl rfl ?_)
    refine go_wp rfl (wq_iload_n dX10_count_2 rfl rfl ?_)
    refine go_wp rfl (wq_table dX10_count_3 (by decide) (fun h22 => ?_) ⟨fun h22 => ?_, fun h22 => ?_, fun h22 => ?_, fun h22 => ?_, fun h22 => ?_, fun h22 => ?_, fun h22 => ?_, fun h22 => ?_, fun h22 => ?_, fun h22 => ?_, trivial⟩)
    · skip
      exact absurd h22 (by decide)
    · skip
      exact absurd h22 (by decide)
    · skip
      exact absurd h22 (by decide)
    · skip
      exact absurd h22 (by decide)
    · skip
      exact absurd h22 (by decide)
    · skip
      exact absurd h22 (by decide)
    · skip
      exact absurd h22 (by decide)
    · skip
      exact absurd h22 (by decide)
    · skip
      exact absurd h22 (by decide)
    · skip
      exact absurd h22 (by decide)
    · skip
      refine wq_to (t := 103) (by decide) ?_
      refine go_wp rfl (wq_iconst (v := 0) dX10_count_103 (by decide) rfl ?_)
      refine go_wp rfl (wq_istore_n (lv' := [some (.ref 76), some (.int 9), some (.int 0), some (.int 0)]) dX10_count_104 ⟨Nat.le_of_ble_eq_true rfl, rfl⟩ rfl rfl ?_)
      refine go_wp rfl (wq_iload_n dX10_count_105 rfl rfl ?_)
      refine go_wp rfl (wq_aload_n dX10_count_106 rfl rfl ?_)
      refine go_wp rfl (wq_getfield (v := .int 0) dX10_count_107 fe_X10_154 rfl rfl rfl ?_)
      refine go_wp rfl (wq_icmp_ge_t (t := 136) dX10_count_110 (by decide) (by decide) ?_)
      refine go_wp rfl (wq_iload_n dX10_count_136 rfl rfl ?_)
      refine go_wp rfl (wq_ireturn dX10_count_137 trivial (ret_int ?_))
      refine go_wp rfl (wq_icmp_eq_t (t := 1540) dL_law_1512 (by decide) (by decide) ?_)
      refine go_wp rfl (wq_iinc (v := 5) (lv' := [some (.ref 1003), some (.ref 0), some (.ref 76), some (.int 5)]) dL_law_1540 rfl ⟨Nat.le_of_ble_eq_true rfl, rfl⟩ (by decide) rfl rfl ?_)
      refine go_wp rfl (wq_goto (t := 18) dL_law_1543 (by decide) ?_)
      exact go_cut rfl ⟨rfl, rfl⟩
set_option maxRecDepth 100000 in
set_option maxHeartbeats 40000000 in
theorem case_45 (xs : Nat → Int32) (a b c d : Int32) (e1 : xs 1 = a) (e2 : xs 2 = b) (e3 : xs 3 = c) (e4 : xs 4 = d) : ex_go (ec_xt ++ [(5, xs)]) cx_L cL_law (some .boolean) law_I law_Q 60 1517 [some (.ref 1003), some (.ref 0), some (.ref 76), some (.int 0)] [] ini_cs := by
  refine go_wp rfl (wq_aload_n dL_law_1517 rfl rfl ?_)
  refine go_wp rfl (wq_aload_n dL_law_1518 rfl rfl ?_)
  refine go_wp rfl (wq_iload_n dL_law_1519 rfl rfl ?_)
  refine go_wp rfl (wq_iconst (v := 1) dL_law_1520 (by decide) rfl ?_)
  refine go_wp rfl (wq_iadd (v := 1) dL_law_1521 (by decide) rfl ?_)
  refine go_wp rfl (wq_ialoadX (j := 3) (v := a) dL_law_1522 rfl rfl (vp_dec (by decide)) e1 rfl ?_)
  refine go_wp rfl (wq_virtual (a := 0) (av := [.ref 0, .int a]) (r := []) dL_law_1523 rfl (Nat.le_of_ble_eq_true rfl) rfl rfl rfl (Nat.le_of_ble_eq_true rfl) rfl rfl ?_)
  refine sp_in (lv := [some (.ref 0), some (.int a)]) rfl (Nat.le_of_ble_eq_true rfl) rfl ?_
  refine wq_iload_n dX9_found_0 rfl rfl ?_
  refine go_wp rfl (wq_iconst (v := 1) dX9_found_1 (by decide) rfl ?_)
  refine go_wp rfl (wq_icmp_lt (t := 10) dX9_found_2 (by decide) rfl (fun h1 => ?_) (fun h1 => ?_))
  · skip
    refine go_wp rfl (wq_aload_n dX9_found_10 rfl rfl ?_)
    refine go_wp rfl (wq_ldc (v := (-1000000001)) dX9_found_11 ce_X9_92 rfl ?_)
    refine go_wp rfl (wq_virtual (a := 0) (av := [.ref 0, .int (-1000000001)]) (r := []) dX9_found_13 rfl (Nat.le_of_ble_eq_true rfl) rfl rfl rfl (Nat.le_of_ble_eq_true rfl) rfl rfl ?_)
    refine sp_in (lv := [some (.ref 0), some (.int (-1000000001))]) rfl (Nat.le_of_ble_eq_true rfl) rfl ?_
    refine wq_iload_n dX9_counted_0 rfl rfl ?_
    refine go_wp rfl (wq_ldc_w (v := (-1000000000)) dX9_counted_1 ce_X9_275 rfl ?_)
    refine go_wp rfl (wq_icmp_ge_f (t := 28) dX9_counted_4 (by decide) rfl (by decide) ?_)
    refine go_wp rfl (wq_iload_n dX9_counted_7 rfl rfl ?_)
    refine go_wp rfl (wq_ldc_w (v := (-1000000005)) dX9_counted_8 ce_X9_276 rfl ?_)
    refine go_wp rfl (wq_icmp_lt_f (t := 28) dX9_counted_11 (by decide) rfl (by decide) ?_)
    refine go_wp rfl (wq_aload_n dX9_counted_14 rfl rfl ?_)
    refine go_wp rfl (wq_getfield (v := .ref 75) dX9_counted_15 fe_X9_46 rfl rfl rfl ?_)
    refine go_wp rfl (wq_ldc_w (v := (-1000000000)) dX9_counted_18 ce_X9_275 rfl ?_)
    refine go_wp rfl (wq_iload_n dX9_counted_21 rfl rfl ?_)
    refine go_wp rfl (wq_isub (v := 1) dX9_counted_22 (by decide) rfl ?_)
    refine go_wp rfl (wq_dup2 dX9_counted_23 rfl rfl rfl ?_)
    refine go_wp rfl (wq_iaload (v := 0) dX9_counted_24 (by decide) rfl (vp_dec (by decide)) rfl rfl ?_)
    refine go_wp rfl (wq_iconst (v := 1) dX9_counted_25 (by decide) rfl ?_)
    refine go_wp rfl (wq_iadd (v := 1) dX9_counted_26 (by decide) rfl ?_)
    refine go_wp rfl (wq_iastore dX9_counted_27 rfl (vp_dec (by decide)) rfl rfl rfl ?_)
    refine go_wp rfl (wq_iload_n dX9_counted_28 rfl rfl ?_)
    refine go_wp rfl (wq_ireturn dX9_counted_29 trivial (ret_int ?_))
    refine go_wp rfl (wq_ireturn dX9_found_16 trivial (ret_int ?_))
    refine go_wp rfl (wq_aload_n dL_law_1526 rfl rfl ?_)
    refine go_wp rfl (wq_aload_n dL_law_1527 rfl rfl ?_)
    refine go_wp rfl (wq_iload_n dL_law_1528 rfl rfl ?_)
    refine go_wp rfl (wq_iconst (v := 1) dL_law_1529 (by decide) rfl ?_)
    refine go_wp rfl (wq_iadd (v := 1) dL_law_1530 (by decide) rfl ?_)
    refine go_wp rfl (wq_ialoadX (j := 3) (v := a) dL_law_1531 rfl rfl (vp_dec (by decide)) e1 rfl ?_)
    refine go_wp rfl (wq_virtual (a := 76) (av := [.ref 76, .int a]) (r := [.int (-1000000001)]) dL_law_1532 rfl (Nat.le_of_ble_eq_true rfl) rfl rfl rfl (Nat.le_of_ble_eq_true rfl) rfl rfl ?_)
    refine sp_in (lv := [some (.ref 76), some (.int a)]) rfl (Nat.le_of_ble_eq_true rfl) rfl ?_
    refine wq_iload_n dX10_found_0 rfl rfl ?_
    refine go_wp rfl (wq_iconst (v := 1) dX10_found_1 (by decide) rfl ?_)
    refine go_wp rfl (wq_iconst (v := 5) dX10_found_2 (by decide) rfl ?_)
    refine go_wp rfl (wq_static (av := [.int a, .int 1, .int 5]) (r := []) dX10_found_3 rfl rfl (Nat.le_of_ble_eq_true rfl) rfl rfl (Nat.le_of_ble_eq_true rfl) rfl ?_)
    refine sp_in (lv := [some (.int a), some (.int 1), some (.int 5)]) rfl (Nat.le_of_ble_eq_true rfl) rfl ?_
    refine wq_iload_n dX10_isIn_0 rfl rfl ?_
    refine go_wp rfl (wq_iload_n dX10_isIn_1 rfl rfl ?_)
    refine go_wp rfl (wq_icmp_lt_t (t := 14) dX10_isIn_2 (by decide) (by simp only [Int32.lt_iff_toInt_lt, Int32.le_iff_toInt_le, ← Int32.toInt_inj, Int32.reduceToInt] at h1 ⊢; omega) ?_)
    refine go_wp rfl (wq_iconst (v := 0) dX10_isIn_14 (by decide) rfl ?_)
    refine go_wp rfl (wq_ireturn dX10_isIn_15 (Or.inl rfl) (ret_int ?_))
    refine go_wp rfl (wq_if_eq_t (t := 18) dX10_found_6 (by decide) (by decide) ?_)
    refine go_wp rfl (wq_aload_n dX10_found_18 rfl rfl ?_)
    refine go_wp rfl (wq_iconst (v := 1) dX10_found_19 (by decide) rfl ?_)
    refine go_wp rfl (wq_virtual (a := 76) (av := [.ref 76, .int 1]) (r := []) dX10_found_20 rfl (Nat.le_of_ble_eq_true rfl) rfl rfl rfl (Nat.le_of_ble_eq_true rfl) rfl rfl ?_)
    refine sp_in (lv := [some (.ref 76), some (.int 1)]) rfl (Nat.le_of_ble_eq_true rfl) rfl ?_
    refine wq_aload_n dX10_finding_0 rfl rfl ?_
    refine go_wp rfl (wq_getfield (v := .ref 114) dX10_finding_1 fe_X10_141 rfl rfl rfl ?_)
    refine go_wp rfl (wq_iload_n dX10_finding_4 rfl rfl ?_)
    refine go_wp rfl (wq_dup2 dX10_finding_5 rfl rfl rfl ?_)
    refine go_wp rfl (wq_iaload (v := 0) dX10_finding_6 (by decide) rfl (vp_dec (by decide)) rfl rfl ?_)
    refine go_wp rfl (wq_iconst (v := 1) dX10_finding_7 (by decide) rfl ?_)
    refine go_wp rfl (wq_iadd (v := 1) dX10_finding_8 (by decide) rfl ?_)
    refine go_wp rfl (wq_iastore dX10_finding_9 rfl (vp_dec (by decide)) rfl rfl rfl ?_)
    refine go_wp rfl (wq_ldc (v := (-1000000000)) dX10_finding_10 ce_X10_147 rfl ?_)
    refine go_wp rfl (wq_iload_n dX10_finding_12 rfl rfl ?_)
    refine go_wp rfl (wq_isub (v := (-1000000001)) dX10_finding_13 (by decide) rfl ?_)
    refine go_wp rfl (wq_ireturn dX10_finding_14 trivial (ret_int ?_))
    refine go_wp rfl (wq_ireturn dX10_found_23 trivial (ret_int ?_))
    refine go_wp rfl (wq_icmp_eq_t (t := 1540) dL_law_1535 (by decide) (by decide) ?_)
    refine go_wp rfl (wq_iinc (v := 5) (lv' := [some (.ref 1003), some (.ref 0), some (.ref 76), some (.int 5)]) dL_law_1540 rfl ⟨Nat.le_of_ble_eq_true rfl, rfl⟩ (by decide) rfl rfl ?_)
    refine go_wp rfl (wq_goto (t := 18) dL_law_1543 (by decide) ?_)
    exact go_cut rfl ⟨rfl, rfl⟩
  · skip
    refine go_wp rfl (wq_iload_n dX9_found_5 rfl rfl ?_)
    refine go_wp rfl (wq_iconst (v := 5) dX9_found_6 (by decide) rfl ?_)
    refine go_wp rfl (wq_icmp_le (t := 17) dX9_found_7 (by decide) rfl (fun h2 => ?_) (fun h2 => ?_))
    · skip
      refine go_wp rfl (wq_aload_n dX9_found_17 rfl rfl ?_)
      refine go_wp rfl (wq_getfield (v := .ref 75) dX9_found_18 fe_X9_46 rfl rfl rfl ?_)
      refine go_wp rfl (wq_iload_n dX9_found_21 rfl rfl ?_)
      refine go_wp rfl (wq_iaload (v := 0) dX9_found_22 (by decide) rfl (vp_in_iff.mpr (by simp only [Int32.lt_iff_toInt_lt, Int32.le_iff_toInt_le, ← Int32.toInt_inj, Int32.reduceToInt] at h1 h2 ⊢; omega)) rfl rfl ?_)
      refine go_wp rfl (wq_ireturn dX9_found_23 trivial (ret_int ?_))
      refine go_wp rfl (wq_aload_n dL_law_1526 rfl rfl ?_)
      refine go_wp rfl (wq_aload_n dL_law_1527 rfl rfl ?_)
      refine go_wp rfl (wq_iload_n dL_law_1528 rfl rfl ?_)
      refine go_wp rfl (wq_iconst (v := 1) dL_law_1529 (by decide) rfl ?_)
      refine go_wp rfl (wq_iadd (v := 1) dL_law_1530 (by decide) rfl ?_)
      refine go_wp rfl (wq_ialoadX (j := 3) (v := a) dL_law_1531 rfl rfl (vp_dec (by decide)) e1 rfl ?_)
      refine go_wp rfl (wq_virtual (a := 76) (av := [.ref 76, .int a]) (r := [.int 0]) dL_law_1532 rfl (Nat.le_of_ble_eq_true rfl) rfl rfl rfl (Nat.le_of_ble_eq_true rfl) rfl rfl ?_)
      refine sp_in (lv := [some (.ref 76), some (.int a)]) rfl (Nat.le_of_ble_eq_true rfl) rfl ?_
      refine wq_iload_n dX10_found_0 rfl rfl ?_
      refine go_wp rfl (wq_iconst (v := 1) dX10_found_1 (by decide) rfl ?_)
      refine go_wp rfl (wq_iconst (v := 5) dX10_found_2 (by decide) rfl ?_)
      refine go_wp rfl (wq_static (av := [.int a, .int 1, .int 5]) (r := []) dX10_found_3 rfl rfl (Nat.le_of_ble_eq_true rfl) rfl rfl (Nat.le_of_ble_eq_true rfl) rfl ?_)
      refine sp_in (lv := [some (.int a), some (.int 1), some (.int 5)]) rfl (Nat.le_of_ble_eq_true rfl) rfl ?_
      refine wq_iload_n dX10_isIn_0 rfl rfl ?_
      refine go_wp rfl (wq_iload_n dX10_isIn_1 rfl rfl ?_)
      refine go_wp rfl (wq_icmp_lt_f (t := 14) dX10_isIn_2 (by decide) rfl (by simp only [Int32.lt_iff_toInt_lt, Int32.le_iff_toInt_le, ← Int32.toInt_inj, Int32.reduceToInt] at h1 h2 ⊢; omega) ?_)
      refine go_wp rfl (wq_iload_n dX10_isIn_5 rfl rfl ?_)
      refine go_wp rfl (wq_iload_n dX10_isIn_6 rfl rfl ?_)
      refine go_wp rfl (wq_icmp_gt_f (t := 14) dX10_isIn_7 (by decide) rfl (by simp only [Int32.lt_iff_toInt_lt, Int32.le_iff_toInt_le, ← Int32.toInt_inj, Int32.reduceToInt] at h1 h2 ⊢; omega) ?_)
      refine go_wp rfl (wq_iconst (v := 1) dX10_isIn_10 (by decide) rfl ?_)
      refine go_wp rfl (wq_goto (t := 15) dX10_isIn_11 (by decide) ?_)
      refine go_wp rfl (wq_ireturn dX10_isIn_15 (Or.inr rfl) (ret_int ?_))
      refine go_wp rfl (wq_if_eq_f (t := 18) dX10_found_6 (by decide) rfl (by decide) ?_)
      refine go_wp rfl (wq_aload_n dX10_found_9 rfl rfl ?_)
      refine go_wp rfl (wq_getfield (v := .ref 114) dX10_found_10 fe_X10_141 rfl rfl rfl ?_)
      refine go_wp rfl (wq_iload_n dX10_found_13 rfl rfl ?_)
      refine go_wp rfl (wq_iaload (v := 0) dX10_found_14 (by decide) rfl (vp_in_iff.mpr (by simp only [Int32.lt_iff_toInt_lt, Int32.le_iff_toInt_le, ← Int32.toInt_inj, Int32.reduceToInt] at h1 h2 ⊢; omega)) rfl rfl ?_)
      refine go_wp rfl (wq_goto (t := 23) dX10_found_15 (by decide) ?_)
      refine go_wp rfl (wq_ireturn dX10_found_23 trivial (ret_int ?_))
      refine go_wp rfl (wq_icmp_eq_t (t := 1540) dL_law_1535 (by decide) (by decide) ?_)
      refine go_wp rfl (wq_iinc (v := 5) (lv' := [some (.ref 1003), some (.ref 0), some (.ref 76), some (.int 5)]) dL_law_1540 rfl ⟨Nat.le_of_ble_eq_true rfl, rfl⟩ (by decide) rfl rfl ?_)
      refine go_wp rfl (wq_goto (t := 18) dL_law_1543 (by decide) ?_)
      exact go_cut rfl ⟨rfl, rfl⟩
    · skip
      refine go_wp rfl (wq_aload_n dX9_found_10 rfl rfl ?_)
      refine go_wp rfl (wq_ldc (v := (-1000000001)) dX9_found_11 ce_X9_92 rfl ?_)
      refine go_wp rfl (wq_virtual (a := 0) (av := [.ref 0, .int (-1000000001)]) (r := []) dX9_found_13 rfl (Nat.le_of_ble_eq_true rfl) rfl rfl rfl (Nat.le_of_ble_eq_true rfl) rfl rfl ?_)
      refine sp_in (lv := [some (.ref 0), some (.int (-1000000001))]) rfl (Nat.le_of_ble_eq_true rfl) rfl ?_
      refine wq_iload_n dX9_counted_0 rfl rfl ?_
      refine go_wp rfl (wq_ldc_w (v := (-1000000000)) dX9_counted_1 ce_X9_275 rfl ?_)
      refine go_wp rfl (wq_icmp_ge_f (t := 28) dX9_counted_4 (by decide) rfl (by decide) ?_)
      refine go_wp rfl (wq_iload_n dX9_counted_7 rfl rfl ?_)
      refine go_wp rfl (wq_ldc_w (v := (-1000000005)) dX9_counted_8 ce_X9_276 rfl ?_)
      refine go_wp rfl (wq_icmp_lt_f (t := 28) dX9_counted_11 (by decide) rfl (by decide) ?_)
      refine go_wp rfl (wq_aload_n dX9_counted_14 rfl rfl ?_)
      refine go_wp rfl (wq_getfield (v := .ref 75) dX9_counted_15 fe_X9_46 rfl rfl rfl ?_)
      refine go_wp rfl (wq_ldc_w (v := (-1000000000)) dX9_counted_18 ce_X9_275 rfl ?_)
      refine go_wp rfl (wq_iload_n dX9_counted_21 rfl rfl ?_)
      refine go_wp rfl (wq_isub (v := 1) dX9_counted_22 (by decide) rfl ?_)
      refine go_wp rfl (wq_dup2 dX9_counted_23 rfl rfl rfl ?_)
      refine go_wp rfl (wq_iaload (v := 0) dX9_counted_24 (by decide) rfl (vp_dec (by decide)) rfl rfl ?_)
      refine go_wp rfl (wq_iconst (v := 1) dX9_counted_25 (by decide) rfl ?_)
      refine go_wp rfl (wq_iadd (v := 1) dX9_counted_26 (by decide) rfl ?_)
      refine go_wp rfl (wq_iastore dX9_counted_27 rfl (vp_dec (by decide)) rfl rfl rfl ?_)
      refine go_wp rfl (wq_iload_n dX9_counted_28 rfl rfl ?_)
      refine go_wp rfl (wq_ireturn dX9_counted_29 trivial (ret_int ?_))
      refine go_wp rfl (wq_ireturn dX9_found_16 trivial (ret_int ?_))
      refine go_wp rfl (wq_aload_n dL_law_1526 rfl rfl ?_)
      refine go_wp rfl (wq_aload_n dL_law_1527 rfl rfl ?_)
      refine go_wp rfl (wq_iload_n dL_law_1528 rfl rfl ?_)
      refine go_wp rfl (wq_iconst (v := 1) dL_law_1529 (by decide) rfl ?_)
      refine go_wp rfl (wq_iadd (v := 1) dL_law_1530 (by decide) rfl ?_)
      refine go_wp rfl (wq_ialoadX (j := 3) (v := a) dL_law_1531 rfl rfl (vp_dec (by decide)) e1 rfl ?_)
      refine go_wp rfl (wq_virtual (a := 76) (av := [.ref 76, .int a]) (r := [.int (-1000000001)]) dL_law_1532 rfl (Nat.le_of_ble_eq_true rfl) rfl rfl rfl (Nat.le_of_ble_eq_true rfl) rfl rfl ?_)
      refine sp_in (lv := [some (.ref 76), some (.int a)]) rfl (Nat.le_of_ble_eq_true rfl) rfl ?_
      refine wq_iload_n dX10_found_0 rfl rfl ?_
      refine go_wp rfl (wq_iconst (v := 1) dX10_found_1 (by decide) rfl ?_)
      refine go_wp rfl (wq_iconst (v := 5) dX10_found_2 (by decide) rfl ?_)
      refine go_wp rfl (wq_static (av := [.int a, .int 1, .int 5]) (r := []) dX10_found_3 rfl rfl (Nat.le_of_ble_eq_true rfl) rfl rfl (Nat.le_of_ble_eq_true rfl) rfl ?_)
      refine sp_in (lv := [some (.int a), some (.int 1), some (.int 5)]) rfl (Nat.le_of_ble_eq_true rfl) rfl ?_
      refine wq_iload_n dX10_isIn_0 rfl rfl ?_
      refine go_wp rfl (wq_iload_n dX10_isIn_1 rfl rfl ?_)
      refine go_wp rfl (wq_icmp_lt_f (t := 14) dX10_isIn_2 (by decide) rfl (by simp only [Int32.lt_iff_toInt_lt, Int32.le_iff_toInt_le, ← Int32.toInt_inj, Int32.reduceToInt] at h1 h2 ⊢; omega) ?_)
      refine go_wp rfl (wq_iload_n dX10_isIn_5 rfl rfl ?_)
      refine go_wp rfl (wq_iload_n dX10_isIn_6 rfl rfl ?_)
      refine go_wp rfl (wq_icmp_gt_t (t := 14) dX10_isIn_7 (by decide) (by simp only [Int32.lt_iff_toInt_lt, Int32.le_iff_toInt_le, ← Int32.toInt_inj, Int32.reduceToInt] at h1 h2 ⊢; omega) ?_)
      refine go_wp rfl (wq_iconst (v := 0) dX10_isIn_14 (by decide) rfl ?_)
      refine go_wp rfl (wq_ireturn dX10_isIn_15 (Or.inl rfl) (ret_int ?_))
      refine go_wp rfl (wq_if_eq_t (t := 18) dX10_found_6 (by decide) (by decide) ?_)
      refine go_wp rfl (wq_aload_n dX10_found_18 rfl rfl ?_)
      refine go_wp rfl (wq_iconst (v := 1) dX10_found_19 (by decide) rfl ?_)
      refine go_wp rfl (wq_virtual (a := 76) (av := [.ref 76, .int 1]) (r := []) dX10_found_20 rfl (Nat.le_of_ble_eq_true rfl) rfl rfl rfl (Nat.le_of_ble_eq_true rfl) rfl rfl ?_)
      refine sp_in (lv := [some (.ref 76), some (.int 1)]) rfl (Nat.le_of_ble_eq_true rfl) rfl ?_
      refine wq_aload_n dX10_finding_0 rfl rfl ?_
      refine go_wp rfl (wq_getfield (v := .ref 114) dX10_finding_1 fe_X10_141 rfl rfl rfl ?_)
      refine go_wp rfl (wq_iload_n dX10_finding_4 rfl rfl ?_)
      refine go_wp rfl (wq_dup2 dX10_finding_5 rfl rfl rfl ?_)
      refine go_wp rfl (wq_iaload (v := 0) dX10_finding_6 (by decide) rfl (vp_dec (by decide)) rfl rfl ?_)
      refine go_wp rfl (wq_iconst (v := 1) dX10_finding_7 (by decide) rfl ?_)
      refine go_wp rfl (wq_iadd (v := 1) dX10_finding_8 (by decide) rfl ?_)
      refine go_wp rfl (wq_iastore dX10_finding_9 rfl (vp_dec (by decide)) rfl rfl rfl ?_)
      refine go_wp rfl (wq_ldc (v := (-1000000000)) dX10_finding_10 ce_X10_147 rfl ?_)
      refine go_wp rfl (wq_iload_n dX10_finding_12 rfl rfl ?_)
      refine go_wp rfl (wq_isub (v := (-1000000001)) dX10_finding_13 (by decide) rfl ?_)
      refine go_wp rfl (wq_ireturn dX10_finding_14 trivial (ret_int ?_))
      refine go_wp rfl (wq_ireturn dX10_found_23 trivial (ret_int ?_))
      refine go_wp rfl (wq_icmp_eq_t (t := 1540) dL_law_1535 (by decide) (by decide) ?_)
      refine go_wp rfl (wq_iinc (v := 5) (lv' := [some (.ref 1003), some (.ref 0), some (.ref 76), some (.int 5)]) dL_law_1540 rfl ⟨Nat.le_of_ble_eq_true rfl, rfl⟩ (by decide) rfl rfl ?_)
      refine go_wp rfl (wq_goto (t := 18) dL_law_1543 (by decide) ?_)
      exact go_cut rfl ⟨rfl, rfl⟩

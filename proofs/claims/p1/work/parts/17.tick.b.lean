set_option maxRecDepth 100000 in
set_option maxHeartbeats 40000000 in
theorem tkb_x (a u : Int32) (hbad : a < 1 ∨ 100 < a) (Q : ex_Q) (h : Q (some (.int (-1000000001))) ((cst 0 0 0 0 (fun _ => 0)).set 75 (.inl (0, 6, .inl (upd (fun _ => 0) 1 1))))) : sq_X9_ticks [.ref 0, .int a] (cst 0 0 0 0 (fun _ => 0)) Q := by
  refine sl_in 60 (fun _ => none) (lv := [some (.ref 0), some (.int a), none]) rfl (Nat.le_of_ble_eq_true rfl) rfl ?_ (fun _ _ _ _ _ _ h => (by cases h))
  refine wq_iload_n dX9_ticks_0 rfl rfl ?_
  refine go_wp rfl (wq_iconst (v := 1) dX9_ticks_1 (by decide) rfl ?_)
  refine go_wp rfl (wq_icmp_lt (t := 11) dX9_ticks_2 (by decide) rfl (fun h1 => ?_) (fun h1 => ?_))
  · skip
    refine go_wp rfl (wq_aload_n dX9_ticks_11 rfl rfl ?_)
    refine go_wp rfl (wq_ldc (v := (-1000000001)) dX9_ticks_12 ce_X9_92 rfl ?_)
    refine go_wp rfl (wq_virtual (a := 0) (av := [.ref 0, .int (-1000000001)]) (r := []) dX9_ticks_14 rfl (Nat.le_of_ble_eq_true rfl) rfl rfl rfl (Nat.le_of_ble_eq_true rfl) rfl rfl ?_)
    refine sp_in (lv := [some (.ref 0), some (.int (-1000000001))]) rfl (Nat.le_of_ble_eq_true rfl) rfl ?_
    refine wq_iload_n dX9_counted_0 rfl rfl ?_
    refine go_wp rfl (wq_ldc_w (v := (-1000000000)) dX9_counted_1 ce_X9_275 rfl ?_)
    refine go_wp rfl (wq_icmp_ge_f (t := 28) dX9_counted_4 (by decide) rfl (by decide) ?_)
    refine go_wp rfl (wq_iload_n dX9_counted_7 rfl rfl ?_)
    refine go_wp rfl (wq_ldc_w (v := (-1000000005)) dX9_counted_8 ce_X9_276 rfl ?_)
    refine go_wp rfl (wq_icmp_lt_f (t := 28) dX9_counted_11 (by decide) rfl (by decide) ?_)
    refine go_wp rfl (wq_aload_n dX9_counted_14 rfl rfl ?_)
    refine go_wp rfl (wq_getfield (v := .ref 75) dX9_counted_15 fe_X9_46 rfl rfl rfl ?_)
    refine go_wp rfl (wq_ldc_w (v := (-1000000000)) dX9_counted_18 ce_X9_275 rfl ?_)
    refine go_wp rfl (wq_iload_n dX9_counted_21 rfl rfl ?_)
    refine go_wp rfl (wq_isub (v := 1) dX9_counted_22 (by decide) rfl ?_)
    refine go_wp rfl (wq_dup2 dX9_counted_23 rfl rfl rfl ?_)
    refine go_wp rfl (wq_iaload (v := 0) dX9_counted_24 (by decide) rfl (vp_dec (by decide)) rfl rfl ?_)
    refine go_wp rfl (wq_iconst (v := 1) dX9_counted_25 (by decide) rfl ?_)
    refine go_wp rfl (wq_iadd (v := 1) dX9_counted_26 (by decide) rfl ?_)
    refine go_wp rfl (wq_iastore dX9_counted_27 rfl (vp_dec (by decide)) rfl rfl rfl ?_)
    refine go_wp rfl (wq_iload_n dX9_counted_28 rfl rfl ?_)
    refine go_wp rfl (wq_ireturn dX9_counted_29 trivial (ret_int ?_))
    refine go_wp rfl (wq_ireturn dX9_ticks_17 trivial ?_)
    exact h
  · skip
    refine go_wp rfl (wq_iload_n dX9_ticks_5 rfl rfl ?_)
    refine go_wp rfl (wq_bipush (v := 100) dX9_ticks_6 (by decide) rfl ?_)
    refine go_wp rfl (wq_icmp_le (t := 18) dX9_ticks_8 (by decide) rfl (fun h2 => ?_) (fun h2 => ?_))
    · skip
      exact absurd hbad (by simp only [Int32.lt_iff_toInt_lt, Int32.le_iff_toInt_le, ← Int32.toInt_inj, Int32.reduceToInt] at * <;> omega)
    · skip
      refine go_wp rfl (wq_aload_n dX9_ticks_11 rfl rfl ?_)
      refine go_wp rfl (wq_ldc (v := (-1000000001)) dX9_ticks_12 ce_X9_92 rfl ?_)
      refine go_wp rfl (wq_virtual (a := 0) (av := [.ref 0, .int (-1000000001)]) (r := []) dX9_ticks_14 rfl (Nat.le_of_ble_eq_true rfl) rfl rfl rfl (Nat.le_of_ble_eq_true rfl) rfl rfl ?_)
      refine sp_in (lv := [some (.ref 0), some (.int (-1000000001))]) rfl (Nat.le_of_ble_eq_true rfl) rfl ?_
      refine wq_iload_n dX9_counted_0 rfl rfl ?_
      refine go_wp rfl (wq_ldc_w (v := (-1000000000)) dX9_counted_1 ce_X9_275 rfl ?_)
      refine go_wp rfl (wq_icmp_ge_f (t := 28) dX9_counted_4 (by decide) rfl (by decide) ?_)
      refine go_wp rfl (wq_iload_n dX9_counted_7 rfl rfl ?_)
      refine go_wp rfl (wq_ldc_w (v := (-1000000005)) dX9_counted_8 ce_X9_276 rfl ?_)
      refine go_wp rfl (wq_icmp_lt_f (t := 28) dX9_counted_11 (by decide) rfl (by decide) ?_)
      refine go_wp rfl (wq_aload_n dX9_counted_14 rfl rfl ?_)
      refine go_wp rfl (wq_getfield (v := .ref 75) dX9_counted_15 fe_X9_46 rfl rfl rfl ?_)
      refine go_wp rfl (wq_ldc_w (v := (-1000000000)) dX9_counted_18 ce_X9_275 rfl ?_)
      refine go_wp rfl (wq_iload_n dX9_counted_21 rfl rfl ?_)
      refine go_wp rfl (wq_isub (v := 1) dX9_counted_22 (by decide) rfl ?_)
      refine go_wp rfl (wq_dup2 dX9_counted_23 rfl rfl rfl ?_)
      refine go_wp rfl (wq_iaload (v := 0) dX9_counted_24 (by decide) rfl (vp_dec (by decide)) rfl rfl ?_)
      refine go_wp rfl (wq_iconst (v := 1) dX9_counted_25 (by decide) rfl ?_)
      refine go_wp rfl (wq_iadd (v := 1) dX9_counted_26 (by decide) rfl ?_)
      refine go_wp rfl (wq_iastore dX9_counted_27 rfl (vp_dec (by decide)) rfl rfl rfl ?_)
      refine go_wp rfl (wq_iload_n dX9_counted_28 rfl rfl ?_)
      refine go_wp rfl (wq_ireturn dX9_counted_29 trivial (ret_int ?_))
      refine go_wp rfl (wq_ireturn dX9_ticks_17 trivial ?_)
      exact h
set_option maxRecDepth 100000 in
set_option maxHeartbeats 40000000 in
theorem tkb_m (a u : Int32) (hbad : a < 1 ∨ 100 < a) (Q : ex_Q) (h : Q (some (.int (-1000000001))) (((cst 0 0 0 0 (fun _ => 0)).set 75 (.inl (0, 6, .inl (upd (fun _ => 0) 1 1)))).set 114 (.inl (0, 6, .inl (upd (fun _ => 0) 1 1))))) : sq_X10_ticks [.ref 76, .int a] ((cst 0 0 0 0 (fun _ => 0)).set 75 (.inl (0, 6, .inl (upd (fun _ => 0) 1 1)))) Q := by
  refine sl_in 60 (fun _ => none) (lv := [some (.ref 76), some (.int a), none, none]) rfl (Nat.le_of_ble_eq_true rfl) rfl ?_ (fun _ _ _ _ _ _ h => (by cases h))
  refine wq_iload_n dX10_ticks_0 rfl rfl ?_
  refine go_wp rfl (wq_iconst (v := 1) dX10_ticks_1 (by decide) rfl ?_)
  refine go_wp rfl (wq_bipush (v := 100) dX10_ticks_2 (by decide) rfl ?_)
  refine go_wp rfl (wq_static (av := [.int a, .int 1, .int 100]) (r := []) dX10_ticks_4 rfl rfl (Nat.le_of_ble_eq_true rfl) rfl rfl (Nat.le_of_ble_eq_true rfl) rfl ?_)
  refine sp_in (lv := [some (.int a), some (.int 1), some (.int 100)]) rfl (Nat.le_of_ble_eq_true rfl) rfl ?_
  refine wq_iload_n dX10_isIn_0 rfl rfl ?_
  refine go_wp rfl (wq_iload_n dX10_isIn_1 rfl rfl ?_)
  refine go_wp rfl (wq_icmp_lt (t := 14) dX10_isIn_2 (by decide) rfl (fun h1 => ?_) (fun h1 => ?_))
  · skip
    refine go_wp rfl (wq_iconst (v := 0) dX10_isIn_14 (by decide) rfl ?_)
    refine go_wp rfl (wq_ireturn dX10_isIn_15 (Or.inl rfl) (ret_int ?_))
    refine go_wp rfl (wq_if_ne_f (t := 16) dX10_ticks_7 (by decide) rfl (by decide) ?_)
    refine go_wp rfl (wq_aload_n dX10_ticks_10 rfl rfl ?_)
    refine go_wp rfl (wq_iconst (v := 1) dX10_ticks_11 (by decide) rfl ?_)
    refine go_wp rfl (wq_virtual (a := 76) (av := [.ref 76, .int 1]) (r := []) dX10_ticks_12 rfl (Nat.le_of_ble_eq_true rfl) rfl rfl rfl (Nat.le_of_ble_eq_true rfl) rfl rfl ?_)
    refine sp_in (lv := [some (.ref 76), some (.int 1)]) rfl (Nat.le_of_ble_eq_true rfl) rfl ?_
    refine wq_aload_n dX10_finding_0 rfl rfl ?_
    refine go_wp rfl (wq_getfield (v := .ref 114) dX10_finding_1 fe_X10_141 rfl rfl rfl ?_)
    refine go_wp rfl (wq_iload_n dX10_finding_4 rfl rfl ?_)
    refine go_wp rfl (wq_dup2 dX10_finding_5 rfl rfl rfl ?_)
    refine go_wp rfl (wq_iaload (v := 0) dX10_finding_6 (by decide) rfl (vp_dec (by decide)) rfl rfl ?_)
    refine go_wp rfl (wq_iconst (v := 1) dX10_finding_7 (by decide) rfl ?_)
    refine go_wp rfl (wq_iadd (v := 1) dX10_finding_8 (by decide) rfl ?_)
    refine go_wp rfl (wq_iastore dX10_finding_9 rfl (vp_dec (by decide)) rfl rfl rfl ?_)
    refine go_wp rfl (wq_ldc (v := (-1000000000)) dX10_finding_10 ce_X10_147 rfl ?_)
    refine go_wp rfl (wq_iload_n dX10_finding_12 rfl rfl ?_)
    refine go_wp rfl (wq_isub (v := (-1000000001)) dX10_finding_13 (by decide) rfl ?_)
    refine go_wp rfl (wq_ireturn dX10_finding_14 trivial (ret_int ?_))
    refine go_wp rfl (wq_ireturn dX10_ticks_15 trivial ?_)
    exact h
  · skip
    refine go_wp rfl (wq_iload_n dX10_isIn_5 rfl rfl ?_)
    refine go_wp rfl (wq_iload_n dX10_isIn_6 rfl rfl ?_)
    refine go_wp rfl (wq_icmp_gt (t := 14) dX10_isIn_7 (by decide) rfl (fun h2 => ?_) (fun h2 => ?_))
    · skip
      refine go_wp rfl (wq_iconst (v := 0) dX10_isIn_14 (by decide) rfl ?_)
      refine go_wp rfl (wq_ireturn dX10_isIn_15 (Or.inl rfl) (ret_int ?_))
      refine go_wp rfl (wq_if_ne_f (t := 16) dX10_ticks_7 (by decide) rfl (by decide) ?_)
      refine go_wp rfl (wq_aload_n dX10_ticks_10 rfl rfl ?_)
      refine go_wp rfl (wq_iconst (v := 1) dX10_ticks_11 (by decide) rfl ?_)
      refine go_wp rfl (wq_virtual (a := 76) (av := [.ref 76, .int 1]) (r := []) dX10_ticks_12 rfl (Nat.le_of_ble_eq_true rfl) rfl rfl rfl (Nat.le_of_ble_eq_true rfl) rfl rfl ?_)
      refine sp_in (lv := [some (.ref 76), some (.int 1)]) rfl (Nat.le_of_ble_eq_true rfl) rfl ?_
      refine wq_aload_n dX10_finding_0 rfl rfl ?_
      refine go_wp rfl (wq_getfield (v := .ref 114) dX10_finding_1 fe_X10_141 rfl rfl rfl ?_)
      refine go_wp rfl (wq_iload_n dX10_finding_4 rfl rfl ?_)
      refine go_wp rfl (wq_dup2 dX10_finding_5 rfl rfl rfl ?_)
      refine go_wp rfl (wq_iaload (v := 0) dX10_finding_6 (by decide) rfl (vp_dec (by decide)) rfl rfl ?_)
      refine go_wp rfl (wq_iconst (v := 1) dX10_finding_7 (by decide) rfl ?_)
      refine go_wp rfl (wq_iadd (v := 1) dX10_finding_8 (by decide) rfl ?_)
      refine go_wp rfl (wq_iastore dX10_finding_9 rfl (vp_dec (by decide)) rfl rfl rfl ?_)
      refine go_wp rfl (wq_ldc (v := (-1000000000)) dX10_finding_10 ce_X10_147 rfl ?_)
      refine go_wp rfl (wq_iload_n dX10_finding_12 rfl rfl ?_)
      refine go_wp rfl (wq_isub (v := (-1000000001)) dX10_finding_13 (by decide) rfl ?_)
      refine go_wp rfl (wq_ireturn dX10_finding_14 trivial (ret_int ?_))
      refine go_wp rfl (wq_ireturn dX10_ticks_15 trivial ?_)
      exact h
    · skip
      refine go_wp rfl (wq_iconst (v := 1) dX10_isIn_10 (by decide) rfl ?_)
      refine go_wp rfl (wq_goto (t := 15) dX10_isIn_11 (by decide) ?_)
      refine go_wp rfl (wq_ireturn dX10_isIn_15 (Or.inr rfl) (ret_int ?_))
      refine go_wp rfl (wq_if_ne_t (t := 16) dX10_ticks_7 (by decide) (by decide) ?_)
      exact absurd hbad (by simp only [Int32.lt_iff_toInt_lt, Int32.le_iff_toInt_le, ← Int32.toInt_inj, Int32.reduceToInt] at * <;> omega)
set_option maxRecDepth 100000 in
set_option maxHeartbeats 40000000 in
theorem ahb_x (a u : Int32) (hbad : a < 1 ∨ 200 < a) (Q : ex_Q) (h : Q (some (.int (-1000000001))) ((cst 0 0 0 0 (fun _ => 0)).set 75 (.inl (0, 6, .inl (upd (fun _ => 0) 1 1))))) : sq_X9_ahead [.ref 0, .int a] (cst 0 0 0 0 (fun _ => 0)) Q := by
  refine sl_in 60 (fun _ => none) (lv := [some (.ref 0), some (.int a), none]) rfl (Nat.le_of_ble_eq_true rfl) rfl ?_ (fun _ _ _ _ _ _ h => (by cases h))
  refine wq_iload_n dX9_ahead_0 rfl rfl ?_
  refine go_wp rfl (wq_iconst (v := 1) dX9_ahead_1 (by decide) rfl ?_)
  refine go_wp rfl (wq_icmp_lt (t := 12) dX9_ahead_2 (by decide) rfl (fun h1 => ?_) (fun h1 => ?_))
  · skip
    refine go_wp rfl (wq_aload_n dX9_ahead_12 rfl rfl ?_)
    refine go_wp rfl (wq_ldc (v := (-1000000001)) dX9_ahead_13 ce_X9_92 rfl ?_)
    refine go_wp rfl (wq_virtual (a := 0) (av := [.ref 0, .int (-1000000001)]) (r := []) dX9_ahead_15 rfl (Nat.le_of_ble_eq_true rfl) rfl rfl rfl (Nat.le_of_ble_eq_true rfl) rfl rfl ?_)
    refine sp_in (lv := [some (.ref 0), some (.int (-1000000001))]) rfl (Nat.le_of_ble_eq_true rfl) rfl ?_
    refine wq_iload_n dX9_counted_0 rfl rfl ?_
    refine go_wp rfl (wq_ldc_w (v := (-1000000000)) dX9_counted_1 ce_X9_275 rfl ?_)
    refine go_wp rfl (wq_icmp_ge_f (t := 28) dX9_counted_4 (by decide) rfl (by decide) ?_)
    refine go_wp rfl (wq_iload_n dX9_counted_7 rfl rfl ?_)
    refine go_wp rfl (wq_ldc_w (v := (-1000000005)) dX9_counted_8 ce_X9_276 rfl ?_)
    refine go_wp rfl (wq_icmp_lt_f (t := 28) dX9_counted_11 (by decide) rfl (by decide) ?_)
    refine go_wp rfl (wq_aload_n dX9_counted_14 rfl rfl ?_)
    refine go_wp rfl (wq_getfield (v := .ref 75) dX9_counted_15 fe_X9_46 rfl rfl rfl ?_)
    refine go_wp rfl (wq_ldc_w (v := (-1000000000)) dX9_counted_18 ce_X9_275 rfl ?_)
    refine go_wp rfl (wq_iload_n dX9_counted_21 rfl rfl ?_)
    refine go_wp rfl (wq_isub (v := 1) dX9_counted_22 (by decide) rfl ?_)
    refine go_wp rfl (wq_dup2 dX9_counted_23 rfl rfl rfl ?_)
    refine go_wp rfl (wq_iaload (v := 0) dX9_counted_24 (by decide) rfl (vp_dec (by decide)) rfl rfl ?_)
    refine go_wp rfl (wq_iconst (v := 1) dX9_counted_25 (by decide) rfl ?_)
    refine go_wp rfl (wq_iadd (v := 1) dX9_counted_26 (by decide) rfl ?_)
    refine go_wp rfl (wq_iastore dX9_counted_27 rfl (vp_dec (by decide)) rfl rfl rfl ?_)
    refine go_wp rfl (wq_iload_n dX9_counted_28 rfl rfl ?_)
    refine go_wp rfl (wq_ireturn dX9_counted_29 trivial (ret_int ?_))
    refine go_wp rfl (wq_ireturn dX9_ahead_18 trivial ?_)
    exact h
  · skip
    refine go_wp rfl (wq_iload_n dX9_ahead_5 rfl rfl ?_)
    refine go_wp rfl (wq_sipush (v := 200) dX9_ahead_6 (by decide) rfl ?_)
    refine go_wp rfl (wq_icmp_le (t := 19) dX9_ahead_9 (by decide) rfl (fun h2 => ?_) (fun h2 => ?_))
    · skip
      exact absurd hbad (by simp only [Int32.lt_iff_toInt_lt, Int32.le_iff_toInt_le, ← Int32.toInt_inj, Int32.reduceToInt] at * <;> omega)
    · skip
      refine go_wp rfl (wq_aload_n dX9_ahead_12 rfl rfl ?_)
      refine go_wp rfl (wq_ldc (v := (-1000000001)) dX9_ahead_13 ce_X9_92 rfl ?_)
      refine go_wp rfl (wq_virtual (a := 0) (av := [.ref 0, .int (-1000000001)]) (r := []) dX9_ahead_15 rfl (Nat.le_of_ble_eq_true rfl) rfl rfl rfl (Nat.le_of_ble_eq_true rfl) rfl rfl ?_)
      refine sp_in (lv := [some (.ref 0), some (.int (-1000000001))]) rfl (Nat.le_of_ble_eq_true rfl) rfl ?_
      refine wq_iload_n dX9_counted_0 rfl rfl ?_
      refine go_wp rfl (wq_ldc_w (v := (-1000000000)) dX9_counted_1 ce_X9_275 rfl ?_)
      refine go_wp rfl (wq_icmp_ge_f (t := 28) dX9_counted_4 (by decide) rfl (by decide) ?_)
      refine go_wp rfl (wq_iload_n dX9_counted_7 rfl rfl ?_)
      refine go_wp rfl (wq_ldc_w (v := (-1000000005)) dX9_counted_8 ce_X9_276 rfl ?_)
      refine go_wp rfl (wq_icmp_lt_f (t := 28) dX9_counted_11 (by decide) rfl (by decide) ?_)
      refine go_wp rfl (wq_aload_n dX9_counted_14 rfl rfl ?_)
      refine go_wp rfl (wq_getfield (v := .ref 75) dX9_counted_15 fe_X9_46 rfl rfl rfl ?_)
      refine go_wp rfl (wq_ldc_w (v := (-1000000000)) dX9_counted_18 ce_X9_275 rfl ?_)
      refine go_wp rfl (wq_iload_n dX9_counted_21 rfl rfl ?_)
      refine go_wp rfl (wq_isub (v := 1) dX9_counted_22 (by decide) rfl ?_)
      refine go_wp rfl (wq_dup2 dX9_counted_23 rfl rfl rfl ?_)
      refine go_wp rfl (wq_iaload (v := 0) dX9_counted_24 (by decide) rfl (vp_dec (by decide)) rfl rfl ?_)
      refine go_wp rfl (wq_iconst (v := 1) dX9_counted_25 (by decide) rfl ?_)
      refine go_wp rfl (wq_iadd (v := 1) dX9_counted_26 (by decide) rfl ?_)
      refine go_wp rfl (wq_iastore dX9_counted_27 rfl (vp_dec (by decide)) rfl rfl rfl ?_)
      refine go_wp rfl (wq_iload_n dX9_counted_28 rfl rfl ?_)
      refine go_wp rfl (wq_ireturn dX9_counted_29 trivial (ret_int ?_))
      refine go_wp rfl (wq_ireturn dX9_ahead_18 trivial ?_)
      exact h
set_option maxRecDepth 100000 in
set_option maxHeartbeats 40000000 in
theorem ahb_m (a u : Int32) (hbad : a < 1 ∨ 200 < a) (Q : ex_Q) (h : Q (some (.int (-1000000001))) (((cst 0 0 0 0 (fun _ => 0)).set 75 (.inl (0, 6, .inl (upd (fun _ => 0) 1 1)))).set 114 (.inl (0, 6, .inl (upd (fun _ => 0) 1 1))))) : sq_X10_ahead [.ref 76, .int a] ((cst 0 0 0 0 (fun _ => 0)).set 75 (.inl (0, 6, .inl (upd (fun _ => 0) 1 1)))) Q := by
  refine sl_in 60 (fun _ => none) (lv := [some (.ref 76), some (.int a), none, none]) rfl (Nat.le_of_ble_eq_true rfl) rfl ?_ (fun _ _ _ _ _ _ h => (by cases h))
  refine wq_iload_n dX10_ahead_0 rfl rfl ?_
  refine go_wp rfl (wq_iconst (v := 1) dX10_ahead_1 (by decide) rfl ?_)
  refine go_wp rfl (wq_sipush (v := 200) dX10_ahead_2 (by decide) rfl ?_)
  refine go_wp rfl (wq_static (av := [.int a, .int 1, .int 200]) (r := []) dX10_ahead_5 rfl rfl (Nat.le_of_ble_eq_true rfl) rfl rfl (Nat.le_of_ble_eq_true rfl) rfl ?_)
  refine sp_in (lv := [some (.int a), some (.int 1), some (.int 200)]) rfl (Nat.le_of_ble_eq_true rfl) rfl ?_
  refine wq_iload_n dX10_isIn_0 rfl rfl ?_
  refine go_wp rfl (wq_iload_n dX10_isIn_1 rfl rfl ?_)
  refine go_wp rfl (wq_icmp_lt (t := 14) dX10_isIn_2 (by decide) rfl (fun h1 => ?_) (fun h1 => ?_))
  · skip
    refine go_wp rfl (wq_iconst (v := 0) dX10_isIn_14 (by decide) rfl ?_)
    refine go_wp rfl (wq_ireturn dX10_isIn_15 (Or.inl rfl) (ret_int ?_))
    refine go_wp rfl (wq_if_ne_f (t := 17) dX10_ahead_8 (by decide) rfl (by decide) ?_)
    refine go_wp rfl (wq_aload_n dX10_ahead_11 rfl rfl ?_)
    refine go_wp rfl (wq_iconst (v := 1) dX10_ahead_12 (by decide) rfl ?_)
    refine go_wp rfl (wq_virtual (a := 76) (av := [.ref 76, .int 1]) (r := []) dX10_ahead_13 rfl (Nat.le_of_ble_eq_true rfl) rfl rfl rfl (Nat.le_of_ble_eq_true rfl) rfl rfl ?_)
    refine sp_in (lv := [some (.ref 76), some (.int 1)]) rfl (Nat.le_of_ble_eq_true rfl) rfl ?_
    refine wq_aload_n dX10_finding_0 rfl rfl ?_
    refine go_wp rfl (wq_getfield (v := .ref 114) dX10_finding_1 fe_X10_141 rfl rfl rfl ?_)
    refine go_wp rfl (wq_iload_n dX10_finding_4 rfl rfl ?_)
    refine go_wp rfl (wq_dup2 dX10_finding_5 rfl rfl rfl ?_)
    refine go_wp rfl (wq_iaload (v := 0) dX10_finding_6 (by decide) rfl (vp_dec (by decide)) rfl rfl ?_)
    refine go_wp rfl (wq_iconst (v := 1) dX10_finding_7 (by decide) rfl ?_)
    refine go_wp rfl (wq_iadd (v := 1) dX10_finding_8 (by decide) rfl ?_)
    refine go_wp rfl (wq_iastore dX10_finding_9 rfl (vp_dec (by decide)) rfl rfl rfl ?_)
    refine go_wp rfl (wq_ldc (v := (-1000000000)) dX10_finding_10 ce_X10_147 rfl ?_)
    refine go_wp rfl (wq_iload_n dX10_finding_12 rfl rfl ?_)
    refine go_wp rfl (wq_isub (v := (-1000000001)) dX10_finding_13 (by decide) rfl ?_)
    refine go_wp rfl (wq_ireturn dX10_finding_14 trivial (ret_int ?_))
    refine go_wp rfl (wq_ireturn dX10_ahead_16 trivial ?_)
    exact h
  · skip
    refine go_wp rfl (wq_iload_n dX10_isIn_5 rfl rfl ?_)
    refine go_wp rfl (wq_iload_n dX10_isIn_6 rfl rfl ?_)
    refine go_wp rfl (wq_icmp_gt (t := 14) dX10_isIn_7 (by decide) rfl (fun h2 => ?_) (fun h2 => ?_))
    · skip
      refine go_wp rfl (wq_iconst (v := 0) dX10_isIn_14 (by decide) rfl ?_)
      refine go_wp rfl (wq_ireturn dX10_isIn_15 (Or.inl rfl) (ret_int ?_))
      refine go_wp rfl (wq_if_ne_f (t := 17) dX10_ahead_8 (by decide) rfl (by decide) ?_)
      refine go_wp rfl (wq_aload_n dX10_ahead_11 rfl rfl ?_)
      refine go_wp rfl (wq_iconst (v := 1) dX10_ahead_12 (by decide) rfl ?_)
      refine go_wp rfl (wq_virtual (a := 76) (av := [.ref 76, .int 1]) (r := []) dX10_ahead_13 rfl (Nat.le_of_ble_eq_true rfl) rfl rfl rfl (Nat.le_of_ble_eq_true rfl) rfl rfl ?_)
      refine sp_in (lv := [some (.ref 76), some (.int 1)]) rfl (Nat.le_of_ble_eq_true rfl) rfl ?_
      refine wq_aload_n dX10_finding_0 rfl rfl ?_
      refine go_wp rfl (wq_getfield (v := .ref 114) dX10_finding_1 fe_X10_141 rfl rfl rfl ?_)
      refine go_wp rfl (wq_iload_n dX10_finding_4 rfl rfl ?_)
      refine go_wp rfl (wq_dup2 dX10_finding_5 rfl rfl rfl ?_)
      refine go_wp rfl (wq_iaload (v := 0) dX10_finding_6 (by decide) rfl (vp_dec (by decide)) rfl rfl ?_)
      refine go_wp rfl (wq_iconst (v := 1) dX10_finding_7 (by decide) rfl ?_)
      refine go_wp rfl (wq_iadd (v := 1) dX10_finding_8 (by decide) rfl ?_)
      refine go_wp rfl (wq_iastore dX10_finding_9 rfl (vp_dec (by decide)) rfl rfl rfl ?_)
      refine go_wp rfl (wq_ldc (v := (-1000000000)) dX10_finding_10 ce_X10_147 rfl ?_)
      refine go_wp rfl (wq_iload_n dX10_finding_12 rfl rfl ?_)
      refine go_wp rfl (wq_isub (v := (-1000000001)) dX10_finding_13 (by decide) rfl ?_)
      refine go_wp rfl (wq_ireturn dX10_finding_14 trivial (ret_int ?_))
      refine go_wp rfl (wq_ireturn dX10_ahead_16 trivial ?_)
      exact h
    · skip
      refine go_wp rfl (wq_iconst (v := 1) dX10_isIn_10 (by decide) rfl ?_)
      refine go_wp rfl (wq_goto (t := 15) dX10_isIn_11 (by decide) ?_)
      refine go_wp rfl (wq_ireturn dX10_isIn_15 (Or.inr rfl) (ret_int ?_))
      refine go_wp rfl (wq_if_ne_t (t := 17) dX10_ahead_8 (by decide) (by decide) ?_)
      exact absurd hbad (by simp only [Int32.lt_iff_toInt_lt, Int32.le_iff_toInt_le, ← Int32.toInt_inj, Int32.reduceToInt] at * <;> omega)
set_option maxRecDepth 100000 in
set_option maxHeartbeats 40000000 in
theorem tk_x (N : Nat) (hN1 : 1 ≤ N) (hN2 : N ≤ 100) (a : Int32) (ha : a = nI N) (Q : ex_Q) (h : Q (some (.int (nI N))) (cst (nI N) 0 0 0 (fun _ => 0))) : sq_X9_ticks [.ref 0, .int a] (cst 0 0 0 0 (fun _ => 0)) Q := by
  have hb1 : ¬ a < 1 := by rw [ha]; exact tk_lo hN1 (by omega)
  have hb2 : a ≤ 100 := by rw [ha]; exact tk_hi (by omega) (by show (N : Int) ≤ 100; omega)
  refine sl_in 80 (fun pc => if pc = 42 then some (fun m lv st cs => ∃ i : Nat, i ≤ N ∧ m = N - i ∧ lv = [some (.ref 0), some (.int a), some (.int (nI i))] ∧ st = [] ∧ cs = cst (nI i) 0 0 0 (fun _ => 0)) else none) (lv := [some (.ref 0), some (.int a), none]) rfl (Nat.le_of_ble_eq_true rfl) rfl ?_ ?_
  · skip
    refine wq_iload_n dX9_ticks_0 rfl rfl ?_
    refine go_wp rfl (wq_iconst (v := 1) dX9_ticks_1 (by decide) rfl ?_)
    refine go_wp rfl (wq_icmp_lt_f (t := 11) dX9_ticks_2 (by decide) rfl (by simp only [Int32.lt_iff_toInt_lt, Int32.le_iff_toInt_le, ← Int32.toInt_inj, Int32.reduceToInt] at hb1 hb2 ⊢; omega) ?_)
    refine go_wp rfl (wq_iload_n dX9_ticks_5 rfl rfl ?_)
    refine go_wp rfl (wq_bipush (v := 100) dX9_ticks_6 (by decide) rfl ?_)
    refine go_wp rfl (wq_icmp_le_t (t := 18) dX9_ticks_8 (by decide) (by simp only [Int32.lt_iff_toInt_lt, Int32.le_iff_toInt_le, ← Int32.toInt_inj, Int32.reduceToInt] at hb1 hb2 ⊢; omega) ?_)
    refine go_wp rfl (wq_aload_n dX9_ticks_18 rfl rfl ?_)
    refine go_wp rfl (wq_getfield (v := .ref 6) dX9_ticks_19 fe_X9_21 rfl rfl rfl ?_)
    refine go_wp rfl (wq_getfield (v := .int 0) dX9_ticks_22 fe_X9_152 rfl rfl rfl ?_)
    refine go_wp rfl (wq_iload_n dX9_ticks_25 rfl rfl ?_)
    refine go_wp rfl (wq_iadd (v := a) dX9_ticks_26 (Int32.zero_add _) rfl ?_)
    refine go_wp rfl (wq_sipush (v := 3000) dX9_ticks_27 (by decide) rfl ?_)
    refine go_wp rfl (wq_icmp_le_t (t := 40) dX9_ticks_30 (by decide) (by simp only [Int32.lt_iff_toInt_lt, Int32.le_iff_toInt_le, ← Int32.toInt_inj, Int32.reduceToInt] at hb1 hb2 ⊢; omega) ?_)
    refine go_wp rfl (wq_iconst (v := 0) dX9_ticks_40 (by decide) rfl ?_)
    refine go_wp rfl (wq_istore_n (lv' := [some (.ref 0), some (.int a), some (.int 0)]) dX9_ticks_41 ⟨Nat.le_of_ble_eq_true rfl, rfl⟩ rfl rfl ?_)
    exact go_cut rfl ⟨N - 0, 0, Nat.zero_le _, rfl, rfl, rfl, rfl⟩
  · intro pc J n lv st cs hI hJ
    obtain ⟨rfl, rfl⟩ := tk_if (P := fun _ => none) hI
    obtain ⟨i, hi, rfl, rfl, rfl, rfl⟩ := hJ
    refine wq_iload_n dX9_ticks_42 rfl rfl ?_
    refine go_wp rfl (wq_iload_n dX9_ticks_43 rfl rfl ?_)
    refine go_wp rfl (wq_icmp_ge (t := 61) dX9_ticks_44 (by decide) rfl (fun hc => ?_) (fun hc => ?_))
    · have hiN : i = N := by
        rw [ha] at hc
        have := (nI_leI (by omega) (by omega)).mp hc
        omega
      subst hiN
      refine go_wp rfl (wq_aload_n dX9_ticks_61 rfl rfl ?_)
      refine go_wp rfl (wq_getfield (v := .ref 6) dX9_ticks_62 fe_X9_21 rfl rfl rfl ?_)
      refine go_wp rfl (wq_getfield (v := .int (nI i)) dX9_ticks_65 fe_X9_152 rfl rfl rfl ?_)
      exact go_wp rfl (wq_ireturn dX9_ticks_68 trivial h)
    · have hlt : i < N := by
        rw [ha] at hc
        rcases Nat.lt_or_ge i N with q | q
        · exact q
        · exact absurd ((nI_leI (by omega) (by omega)).mpr q) hc
      refine go_wp rfl (wq_aload_n dX9_ticks_47 rfl rfl ?_)
      refine go_wp rfl (wq_getfield (v := .ref 6) dX9_ticks_48 fe_X9_21 rfl rfl rfl ?_)
      refine go_wp rfl (wq_virtual (a := 6) (av := [.ref 6]) (r := []) dX9_ticks_51 rfl (Nat.le_of_ble_eq_true rfl) rfl rfl rfl (Nat.le_of_ble_eq_true rfl) rfl rfl ?_)
      refine pt_n (nI i) 0 0 0 (fun _ => 0) _ (ret_int ?_)
      refine go_wp rfl (wq_pop dX9_ticks_54 rfl rfl ?_)
      refine go_wp rfl (wq_iinc (v := nI (i + 1)) (lv' := [some (.ref 0), some (.int a), some (.int (nI (i + 1)))]) dX9_ticks_55 rfl ⟨Nat.le_of_ble_eq_true rfl, rfl⟩ (tk_inc i) rfl rfl ?_)
      refine go_wp rfl (wq_goto (t := 42) dX9_ticks_58 (by decide) ?_)
      exact go_cut rfl ⟨N - (i + 1), by omega, i + 1, hlt, rfl, rfl, rfl, by rw [nI_1]⟩
set_option maxRecDepth 100000 in
set_option maxHeartbeats 40000000 in
theorem tk_m (N : Nat) (hN1 : 1 ≤ N) (hN2 : N ≤ 100) (a t : Int32) (ha : a = nI N) (Q : ex_Q) (h : Q (some (.int (nI N))) (cst t 0 (nI N) 0 (fun _ => 0))) : sq_X10_ticks [.ref 76, .int a] (cst t 0 0 0 (fun _ => 0)) Q := by
  have hb1 : ¬ a < 1 := by rw [ha]; exact tk_lo hN1 (by omega)
  have hb2 : a ≤ 100 := by rw [ha]; exact tk_hi (by omega) (by show (N : Int) ≤ 100; omega)
  refine sl_in 80 (fun pc => if pc = 38 then some (fun m lv st cs => ∃ (i : Nat) (x : Option Value), i ≤ N ∧ m = N - i ∧ lv = [some (.ref 76), some (.int a), some (.int (nI i)), x] ∧ st = [] ∧ cs = cst t 0 (nI i) 0 (fun _ => 0)) else none) (lv := [some (.ref 76), some (.int a), none, none]) rfl (Nat.le_of_ble_eq_true rfl) rfl ?_ ?_
  · skip
    refine wq_iload_n dX10_ticks_0 rfl rfl ?_
    refine go_wp rfl (wq_iconst (v := 1) dX10_ticks_1 (by decide) rfl ?_)
    refine go_wp rfl (wq_bipush (v := 100) dX10_ticks_2 (by decide) rfl ?_)
    refine go_wp rfl (wq_static (av := [.int a, .int 1, .int 100]) (r := []) dX10_ticks_4 rfl rfl (Nat.le_of_ble_eq_true rfl) rfl rfl (Nat.le_of_ble_eq_true rfl) rfl ?_)
    refine sp_in (lv := [some (.int a), some (.int 1), some (.int 100)]) rfl (Nat.le_of_ble_eq_true rfl) rfl ?_
    refine wq_iload_n dX10_isIn_0 rfl rfl ?_
    refine go_wp rfl (wq_iload_n dX10_isIn_1 rfl rfl ?_)
    refine go_wp rfl (wq_icmp_lt_f (t := 14) dX10_isIn_2 (by decide) rfl (by simp only [Int32.lt_iff_toInt_lt, Int32.le_iff_toInt_le, ← Int32.toInt_inj, Int32.reduceToInt] at hb1 hb2 ⊢; omega) ?_)
    refine go_wp rfl (wq_iload_n dX10_isIn_5 rfl rfl ?_)
    refine go_wp rfl (wq_iload_n dX10_isIn_6 rfl rfl ?_)
    refine go_wp rfl (wq_icmp_gt_f (t := 14) dX10_isIn_7 (by decide) rfl (by simp only [Int32.lt_iff_toInt_lt, Int32.le_iff_toInt_le, ← Int32.toInt_inj, Int32.reduceToInt] at hb1 hb2 ⊢; omega) ?_)
    refine go_wp rfl (wq_iconst (v := 1) dX10_isIn_10 (by decide) rfl ?_)
    refine go_wp rfl (wq_goto (t := 15) dX10_isIn_11 (by decide) ?_)
    refine go_wp rfl (wq_ireturn dX10_isIn_15 (Or.inr rfl) (ret_int ?_))
    refine go_wp rfl (wq_if_ne_t (t := 16) dX10_ticks_7 (by decide) (by decide) ?_)
    refine go_wp rfl (wq_aload_n dX10_ticks_16 rfl rfl ?_)
    refine go_wp rfl (wq_getfield (v := .ref 101) dX10_ticks_17 fe_X10_82 rfl rfl rfl ?_)
    refine go_wp rfl (wq_iconst (v := 0) dX10_ticks_20 (by decide) rfl ?_)
    refine go_wp rfl (wq_iaload (v := 0) dX10_ticks_21 (by decide) rfl (vp_dec (by decide)) rfl rfl ?_)
    refine go_wp rfl (wq_iload_n dX10_ticks_22 rfl rfl ?_)
    refine go_wp rfl (wq_iadd (v := a) dX10_ticks_23 (Int32.zero_add _) rfl ?_)
    refine go_wp rfl (wq_sipush (v := 3000) dX10_ticks_24 (by decide) rfl ?_)
    refine go_wp rfl (wq_icmp_le_t (t := 36) dX10_ticks_27 (by decide) (by simp only [Int32.lt_iff_toInt_lt, Int32.le_iff_toInt_le, ← Int32.toInt_inj, Int32.reduceToInt] at hb1 hb2 ⊢; omega) ?_)
    refine go_wp rfl (wq_iconst (v := 0) dX10_ticks_36 (by decide) rfl ?_)
    refine go_wp rfl (wq_istore_n (lv' := [some (.ref 76), some (.int a), some (.int 0), none]) dX10_ticks_37 ⟨Nat.le_of_ble_eq_true rfl, rfl⟩ rfl rfl ?_)
    exact go_cut rfl ⟨N - 0, 0, none, Nat.zero_le _, rfl, rfl, rfl, rfl⟩
  · intro pc J n lv st cs hI hJ
    obtain ⟨rfl, rfl⟩ := tk_if (P := fun _ => none) hI
    obtain ⟨i, x, hi, rfl, rfl, rfl, rfl⟩ := hJ
    refine wq_iload_n dX10_ticks_38 rfl rfl ?_
    refine go_wp rfl (wq_iload_n dX10_ticks_39 rfl rfl ?_)
    refine go_wp rfl (wq_icmp_ge (t := 54) dX10_ticks_40 (by decide) rfl (fun hc => ?_) (fun hc => ?_))
    · have hiN : i = N := by
        rw [ha] at hc
        have := (nI_leI (by omega) (by omega)).mp hc
        omega
      subst hiN
      refine go_wp rfl (wq_aload_n dX10_ticks_54 rfl rfl ?_)
      refine go_wp rfl (wq_getfield (v := .ref 101) dX10_ticks_55 fe_X10_82 rfl rfl rfl ?_)
      refine go_wp rfl (wq_iconst (v := 0) dX10_ticks_58 (by decide) rfl ?_)
      refine go_wp rfl (wq_iaload (v := nI i) dX10_ticks_59 (by decide) rfl (vp_dec (by decide)) rfl rfl ?_)
      exact go_wp rfl (wq_ireturn dX10_ticks_60 trivial h)
    · have hlt : i < N := by
        rw [ha] at hc
        rcases Nat.lt_or_ge i N with q | q
        · exact q
        · exact absurd ((nI_leI (by omega) (by omega)).mpr q) hc
      refine go_wp rfl (wq_aload_n dX10_ticks_43 rfl rfl ?_)
      refine go_wp rfl (wq_virtual (a := 76) (av := [.ref 76]) (r := []) dX10_ticks_44 rfl (Nat.le_of_ble_eq_true rfl) rfl rfl rfl (Nat.le_of_ble_eq_true rfl) rfl rfl ?_)
      refine pt_m t 0 (nI i) 0 (fun _ => 0) _ (ret_int ?_)
      refine go_wp rfl (wq_istore_n (lv' := [some (.ref 76), some (.int a), some (.int (nI i)), some (.int 0)]) dX10_ticks_47 ⟨Nat.le_of_ble_eq_true rfl, rfl⟩ rfl rfl ?_)
      refine go_wp rfl (wq_iinc (v := nI (i + 1)) (lv' := [some (.ref 76), some (.int a), some (.int (nI (i + 1))), some (.int 0)]) dX10_ticks_48 rfl ⟨Nat.le_of_ble_eq_true rfl, rfl⟩ (tk_inc i) rfl rfl ?_)
      refine go_wp rfl (wq_goto (t := 38) dX10_ticks_51 (by decide) ?_)
      exact go_cut rfl ⟨N - (i + 1), by omega, i + 1, some (.int 0), hlt, rfl, rfl, rfl, by rw [nI_1]⟩

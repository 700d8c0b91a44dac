set_option maxRecDepth 100000 in
set_option maxHeartbeats 40000000 in
theorem case_24 {xs : Nat → Int32} {L : Nat} {i : Int32} {cs : ex_C} (hi1 : 0 ≤ i.toInt) (hi2 : i.toInt + 5 ≤ (L : Int)) (hL : L ≤ 2560) (hk : ab_hk ab_hd cs) (hR : rel_R cs) : ex_go (ec_xt ++ [(L, xs)]) bx_L cL_law (some .boolean) (law_I i) law_Q 60 984 [some (.ref 1003), some (.ref 0), some (.ref 76), some (.int i)] [] cs := by
  refine go_wp rfl (wq_aload_n dL_law_984 rfl rfl ?_)
  refine go_wp rfl (wq_aload_n dL_law_985 rfl rfl ?_)
  refine go_wp rfl (wq_iload_n dL_law_986 rfl rfl ?_)
  refine go_wp rfl (wq_iconst (v := 1) dL_law_987 (by decide) rfl ?_)
  refine go_wp rfl (wq_iadd (v := i + 1) dL_law_988 rfl rfl ?_)
  refine go_wp rfl (wq_ialoadX (j := 3) (v := xs (i + 1).toNatClampNeg) dL_law_989 rfl rfl (ix_k hi1 hi2 hL (by decide)) rfl rfl ?_)
  refine go_wp rfl (wq_aload_n dL_law_990 rfl rfl ?_)
  refine go_wp rfl (wq_iload_n dL_law_991 rfl rfl ?_)
  refine go_wp rfl (wq_iconst (v := 2) dL_law_992 (by decide) rfl ?_)
  refine go_wp rfl (wq_iadd (v := i + 2) dL_law_993 rfl rfl ?_)
  refine go_wp rfl (wq_ialoadX (j := 3) (v := xs (i + 2).toNatClampNeg) dL_law_994 rfl rfl (ix_k hi1 hi2 hL (by decide)) rfl rfl ?_)
  refine go_wp rfl (wq_aload_n dL_law_995 rfl rfl ?_)
  refine go_wp rfl (wq_iload_n dL_law_996 rfl rfl ?_)
  refine go_wp rfl (wq_iconst (v := 3) dL_law_997 (by decide) rfl ?_)
  refine go_wp rfl (wq_iadd (v := i + 3) dL_law_998 rfl rfl ?_)
  refine go_wp rfl (wq_ialoadX (j := 3) (v := xs (i + 3).toNatClampNeg) dL_law_999 rfl rfl (ix_k hi1 hi2 hL (by decide)) rfl rfl ?_)
  refine go_wp rfl (wq_aload_n dL_law_1000 rfl rfl ?_)
  refine go_wp rfl (wq_iload_n dL_law_1001 rfl rfl ?_)
  refine go_wp rfl (wq_iconst (v := 4) dL_law_1002 (by decide) rfl ?_)
  refine go_wp rfl (wq_iadd (v := i + 4) dL_law_1003 rfl rfl ?_)
  refine go_wp rfl (wq_ialoadX (j := 3) (v := xs (i + 4).toNatClampNeg) dL_law_1004 rfl rfl (ix_k hi1 hi2 hL (by decide)) rfl rfl ?_)
  obtain ⟨fs1, ho1, -⟩ := hk.obj (a := 0) (ci := 9) rfl
  refine go_wp rfl (wq_virtual (q := 5) (ci := 9) (a := 0) (av := [.ref 0, .int (xs (i + 1).toNatClampNeg), .int (xs (i + 2).toNatClampNeg), .int (xs (i + 3).toNatClampNeg), .int (xs (i + 4).toNatClampNeg)]) (r := []) dL_law_1005 rfl (Nat.le_of_ble_eq_true rfl) rfl rfl rfl (Nat.le_of_ble_eq_true rfl) ho1 rfl (lw_call rfl pr_4 hk (fun r1 cs1 hp1 => ?_)))
  obtain ⟨⟨x1, e1⟩, hk1, hf1⟩ := po_int hp1 rfl
  subst e1
  refine ret_int ?_
  refine go_wp rfl (wq_pop dL_law_1008 rfl rfl ?_)
  refine go_wp rfl (wq_aload_n dL_law_1009 rfl rfl ?_)
  refine go_wp rfl (wq_aload_n dL_law_1010 rfl rfl ?_)
  refine go_wp rfl (wq_iload_n dL_law_1011 rfl rfl ?_)
  refine go_wp rfl (wq_iconst (v := 1) dL_law_1012 (by decide) rfl ?_)
  refine go_wp rfl (wq_iadd (v := i + 1) dL_law_1013 rfl rfl ?_)
  refine go_wp rfl (wq_ialoadX (j := 3) (v := xs (i + 1).toNatClampNeg) dL_law_1014 rfl rfl (ix_k hi1 hi2 hL (by decide)) rfl rfl ?_)
  refine go_wp rfl (wq_aload_n dL_law_1015 rfl rfl ?_)
  refine go_wp rfl (wq_iload_n dL_law_1016 rfl rfl ?_)
  refine go_wp rfl (wq_iconst (v := 2) dL_law_1017 (by decide) rfl ?_)
  refine go_wp rfl (wq_iadd (v := i + 2) dL_law_1018 rfl rfl ?_)
  refine go_wp rfl (wq_ialoadX (j := 3) (v := xs (i + 2).toNatClampNeg) dL_law_1019 rfl rfl (ix_k hi1 hi2 hL (by decide)) rfl rfl ?_)
  refine go_wp rfl (wq_aload_n dL_law_1020 rfl rfl ?_)
  refine go_wp rfl (wq_iload_n dL_law_1021 rfl rfl ?_)
  refine go_wp rfl (wq_iconst (v := 3) dL_law_1022 (by decide) rfl ?_)
  refine go_wp rfl (wq_iadd (v := i + 3) dL_law_1023 rfl rfl ?_)
  refine go_wp rfl (wq_ialoadX (j := 3) (v := xs (i + 3).toNatClampNeg) dL_law_1024 rfl rfl (ix_k hi1 hi2 hL (by decide)) rfl rfl ?_)
  refine go_wp rfl (wq_aload_n dL_law_1025 rfl rfl ?_)
  refine go_wp rfl (wq_iload_n dL_law_1026 rfl rfl ?_)
  refine go_wp rfl (wq_iconst (v := 4) dL_law_1027 (by decide) rfl ?_)
  refine go_wp rfl (wq_iadd (v := i + 4) dL_law_1028 rfl rfl ?_)
  refine go_wp rfl (wq_ialoadX (j := 3) (v := xs (i + 4).toNatClampNeg) dL_law_1029 rfl rfl (ix_k hi1 hi2 hL (by decide)) rfl rfl ?_)
  obtain ⟨fs2, ho2, -⟩ := hk1.obj (a := 76) (ci := 10) rfl
  refine go_wp rfl (wq_virtual (q := 5) (ci := 10) (a := 76) (av := [.ref 76, .int (xs (i + 1).toNatClampNeg), .int (xs (i + 2).toNatClampNeg), .int (xs (i + 3).toNatClampNeg), .int (xs (i + 4).toNatClampNeg)]) (r := []) dL_law_1030 rfl (Nat.le_of_ble_eq_true rfl) rfl rfl rfl (Nat.le_of_ble_eq_true rfl) ho2 rfl (lw_call rfl pr_4 hk1 (fun r2 cs2 hp2 => ?_)))
  obtain ⟨⟨x2, e2⟩, hk2, hf2⟩ := po_int hp2 rfl
  subst e2
  refine ret_int ?_
  refine go_wp rfl (wq_pop dL_law_1033 rfl rfl ?_)
  refine go_wp rfl (wq_goto (t := 1540) dL_law_1034 (by decide) ?_)
  refine go_wp rfl (wq_iinc (v := i + Int32.ofInt 5) (lv' := [some (.ref 1003), some (.ref 0), some (.ref 76), some (.int (i + Int32.ofInt 5))]) dL_law_1540 rfl ⟨Nat.le_of_ble_eq_true rfl, rfl⟩ rfl rfl rfl ?_)
  refine go_wp rfl (wq_goto (t := 18) dL_law_1543 (by decide) ?_)
  exact go_cut rfl ⟨rfl, rfl, hk2, rel_keep hf1 hf2 rfl rfl hR⟩
set_option maxRecDepth 100000 in
set_option maxHeartbeats 40000000 in
theorem case_25 {xs : Nat → Int32} {L : Nat} {i : Int32} {cs : ex_C} (hi1 : 0 ≤ i.toInt) (hi2 : i.toInt + 5 ≤ (L : Int)) (hL : L ≤ 2560) (hk : ab_hk ab_hd cs) (hR : rel_R cs) : ex_go (ec_xt ++ [(L, xs)]) bx_L cL_law (some .boolean) (law_I i) law_Q 60 1037 [some (.ref 1003), some (.ref 0), some (.ref 76), some (.int i)] [] cs := by
  refine go_wp rfl (wq_aload_n dL_law_1037 rfl rfl ?_)
  obtain ⟨fs1, ho1, -⟩ := hk.obj (a := 0) (ci := 9) rfl
  refine go_wp rfl (wq_virtual (q := 1) (ci := 9) (a := 0) (av := [.ref 0]) (r := []) dL_law_1038 rfl (Nat.le_of_ble_eq_true rfl) rfl rfl rfl (Nat.le_of_ble_eq_true rfl) ho1 rfl (lw_call rfl pr_0 hk (fun r1 cs1 hp1 => ?_)))
  obtain ⟨⟨x1, e1⟩, hk1, hf1⟩ := po_int hp1 rfl
  subst e1
  refine ret_int ?_
  refine go_wp rfl (wq_pop dL_law_1041 rfl rfl ?_)
  refine go_wp rfl (wq_aload_n dL_law_1042 rfl rfl ?_)
  obtain ⟨fs2, ho2, -⟩ := hk1.obj (a := 76) (ci := 10) rfl
  refine go_wp rfl (wq_virtual (q := 1) (ci := 10) (a := 76) (av := [.ref 76]) (r := []) dL_law_1043 rfl (Nat.le_of_ble_eq_true rfl) rfl rfl rfl (Nat.le_of_ble_eq_true rfl) ho2 rfl (lw_call rfl pr_0 hk1 (fun r2 cs2 hp2 => ?_)))
  obtain ⟨⟨x2, e2⟩, hk2, hf2⟩ := po_int hp2 rfl
  subst e2
  refine ret_int ?_
  refine go_wp rfl (wq_pop dL_law_1046 rfl rfl ?_)
  refine go_wp rfl (wq_goto (t := 1540) dL_law_1047 (by decide) ?_)
  refine go_wp rfl (wq_iinc (v := i + Int32.ofInt 5) (lv' := [some (.ref 1003), some (.ref 0), some (.ref 76), some (.int (i + Int32.ofInt 5))]) dL_law_1540 rfl ⟨Nat.le_of_ble_eq_true rfl, rfl⟩ rfl rfl rfl ?_)
  refine go_wp rfl (wq_goto (t := 18) dL_law_1543 (by decide) ?_)
  exact go_cut rfl ⟨rfl, rfl, hk2, rel_keep hf1 hf2 rfl rfl hR⟩
set_option maxRecDepth 100000 in
set_option maxHeartbeats 40000000 in
theorem case_26 {xs : Nat → Int32} {L : Nat} {i : Int32} {cs : ex_C} (hi1 : 0 ≤ i.toInt) (hi2 : i.toInt + 5 ≤ (L : Int)) (hL : L ≤ 2560) (hk : ab_hk ab_hd cs) (hR : rel_R cs) : ex_go (ec_xt ++ [(L, xs)]) bx_L cL_law (some .boolean) (law_I i) law_Q 60 1050 [some (.ref 1003), some (.ref 0), some (.ref 76), some (.int i)] [] cs := by
  refine go_wp rfl (wq_aload_n dL_law_1050 rfl rfl ?_)
  obtain ⟨fs1, ho1, -⟩ := hk.obj (a := 0) (ci := 9) rfl
  refine go_wp rfl (wq_virtual (q := 1) (ci := 9) (a := 0) (av := [.ref 0]) (r := []) dL_law_1051 rfl (Nat.le_of_ble_eq_true rfl) rfl rfl rfl (Nat.le_of_ble_eq_true rfl) ho1 rfl (lw_call rfl pr_0 hk (fun r1 cs1 hp1 => ?_)))
  obtain ⟨⟨x1, e1⟩, hk1, hf1⟩ := po_int hp1 rfl
  subst e1
  refine ret_int ?_
  refine go_wp rfl (wq_pop dL_law_1054 rfl rfl ?_)
  refine go_wp rfl (wq_aload_n dL_law_1055 rfl rfl ?_)
  obtain ⟨fs2, ho2, -⟩ := hk1.obj (a := 76) (ci := 10) rfl
  refine go_wp rfl (wq_virtual (q := 1) (ci := 10) (a := 76) (av := [.ref 76]) (r := []) dL_law_1056 rfl (Nat.le_of_ble_eq_true rfl) rfl rfl rfl (Nat.le_of_ble_eq_true rfl) ho2 rfl (lw_call rfl pr_0 hk1 (fun r2 cs2 hp2 => ?_)))
  obtain ⟨⟨x2, e2⟩, hk2, hf2⟩ := po_int hp2 rfl
  subst e2
  refine ret_int ?_
  refine go_wp rfl (wq_pop dL_law_1059 rfl rfl ?_)
  refine go_wp rfl (wq_goto (t := 1540) dL_law_1060 (by decide) ?_)
  refine go_wp rfl (wq_iinc (v := i + Int32.ofInt 5) (lv' := [some (.ref 1003), some (.ref 0), some (.ref 76), some (.int (i + Int32.ofInt 5))]) dL_law_1540 rfl ⟨Nat.le_of_ble_eq_true rfl, rfl⟩ rfl rfl rfl ?_)
  refine go_wp rfl (wq_goto (t := 18) dL_law_1543 (by decide) ?_)
  exact go_cut rfl ⟨rfl, rfl, hk2, rel_keep hf1 hf2 rfl rfl hR⟩
set_option maxRecDepth 100000 in
set_option maxHeartbeats 40000000 in
theorem case_27 {xs : Nat → Int32} {L : Nat} {i : Int32} {cs : ex_C} (hi1 : 0 ≤ i.toInt) (hi2 : i.toInt + 5 ≤ (L : Int)) (hL : L ≤ 2560) (hk : ab_hk ab_hd cs) (hR : rel_R cs) : ex_go (ec_xt ++ [(L, xs)]) bx_L cL_law (some .boolean) (law_I i) law_Q 60 1063 [some (.ref 1003), some (.ref 0), some (.ref 76), some (.int i)] [] cs := by
  refine go_wp rfl (wq_aload_n dL_law_1063 rfl rfl ?_)
  refine go_wp rfl (wq_aload_n dL_law_1064 rfl rfl ?_)
  refine go_wp rfl (wq_iload_n dL_law_1065 rfl rfl ?_)
  refine go_wp rfl (wq_iconst (v := 1) dL_law_1066 (by decide) rfl ?_)
  refine go_wp rfl (wq_iadd (v := i + 1) dL_law_1067 rfl rfl ?_)
  refine go_wp rfl (wq_ialoadX (j := 3) (v := xs (i + 1).toNatClampNeg) dL_law_1068 rfl rfl (ix_k hi1 hi2 hL (by decide)) rfl rfl ?_)
  obtain ⟨fs1, ho1, -⟩ := hk.obj (a := 0) (ci := 9) rfl
  refine go_wp rfl (wq_virtual (q := 2) (ci := 9) (a := 0) (av := [.ref 0, .int (xs (i + 1).toNatClampNeg)]) (r := []) dL_law_1069 rfl (Nat.le_of_ble_eq_true rfl) rfl rfl rfl (Nat.le_of_ble_eq_true rfl) ho1 rfl (lw_call rfl pr_1 hk (fun r1 cs1 hp1 => ?_)))
  obtain ⟨⟨x1, e1⟩, hk1, hf1⟩ := po_int hp1 rfl
  subst e1
  refine ret_int ?_
  refine go_wp rfl (wq_pop dL_law_1072 rfl rfl ?_)
  refine go_wp rfl (wq_aload_n dL_law_1073 rfl rfl ?_)
  refine go_wp rfl (wq_aload_n dL_law_1074 rfl rfl ?_)
  refine go_wp rfl (wq_iload_n dL_law_1075 rfl rfl ?_)
  refine go_wp rfl (wq_iconst (v := 1) dL_law_1076 (by decide) rfl ?_)
  refine go_wp rfl (wq_iadd (v := i + 1) dL_law_1077 rfl rfl ?_)
  refine go_wp rfl (wq_ialoadX (j := 3) (v := xs (i + 1).toNatClampNeg) dL_law_1078 rfl rfl (ix_k hi1 hi2 hL (by decide)) rfl rfl ?_)
  obtain ⟨fs2, ho2, -⟩ := hk1.obj (a := 76) (ci := 10) rfl
  refine go_wp rfl (wq_virtual (q := 2) (ci := 10) (a := 76) (av := [.ref 76, .int (xs (i + 1).toNatClampNeg)]) (r := []) dL_law_1079 rfl (Nat.le_of_ble_eq_true rfl) rfl rfl rfl (Nat.le_of_ble_eq_true rfl) ho2 rfl (lw_call rfl pr_1 hk1 (fun r2 cs2 hp2 => ?_)))
  obtain ⟨⟨x2, e2⟩, hk2, hf2⟩ := po_int hp2 rfl
  subst e2
  refine ret_int ?_
  refine go_wp rfl (wq_pop dL_law_1082 rfl rfl ?_)
  refine go_wp rfl (wq_goto (t := 1540) dL_law_1083 (by decide) ?_)
  refine go_wp rfl (wq_iinc (v := i + Int32.ofInt 5) (lv' := [some (.ref 1003), some (.ref 0), some (.ref 76), some (.int (i + Int32.ofInt 5))]) dL_law_1540 rfl ⟨Nat.le_of_ble_eq_true rfl, rfl⟩ rfl rfl rfl ?_)
  refine go_wp rfl (wq_goto (t := 18) dL_law_1543 (by decide) ?_)
  exact go_cut rfl ⟨rfl, rfl, hk2, rel_keep hf1 hf2 rfl rfl hR⟩
set_option maxRecDepth 100000 in
set_option maxHeartbeats 40000000 in
theorem case_28 {xs : Nat → Int32} {L : Nat} {i : Int32} {cs : ex_C} (hi1 : 0 ≤ i.toInt) (hi2 : i.toInt + 5 ≤ (L : Int)) (hL : L ≤ 2560) (hk : ab_hk ab_hd cs) (hR : rel_R cs) : ex_go (ec_xt ++ [(L, xs)]) bx_L cL_law (some .boolean) (law_I i) law_Q 60 1086 [some (.ref 1003), some (.ref 0), some (.ref 76), some (.int i)] [] cs := by
  refine go_wp rfl (wq_aload_n dL_law_1086 rfl rfl ?_)
  obtain ⟨fs1, ho1, -⟩ := hk.obj (a := 0) (ci := 9) rfl
  refine go_wp rfl (wq_virtual (q := 1) (ci := 9) (a := 0) (av := [.ref 0]) (r := []) dL_law_1087 rfl (Nat.le_of_ble_eq_true rfl) rfl rfl rfl (Nat.le_of_ble_eq_true rfl) ho1 rfl (lw_call rfl pr_0 hk (fun r1 cs1 hp1 => ?_)))
  obtain ⟨⟨x1, e1⟩, hk1, hf1⟩ := po_int hp1 rfl
  subst e1
  refine ret_int ?_
  refine go_wp rfl (wq_pop dL_law_1090 rfl rfl ?_)
  refine go_wp rfl (wq_aload_n dL_law_1091 rfl rfl ?_)
  obtain ⟨fs2, ho2, -⟩ := hk1.obj (a := 76) (ci := 10) rfl
  refine go_wp rfl (wq_virtual (q := 1) (ci := 10) (a := 76) (av := [.ref 76]) (r := []) dL_law_1092 rfl (Nat.le_of_ble_eq_true rfl) rfl rfl rfl (Nat.le_of_ble_eq_true rfl) ho2 rfl (lw_call rfl pr_0 hk1 (fun r2 cs2 hp2 => ?_)))
  obtain ⟨⟨x2, e2⟩, hk2, hf2⟩ := po_int hp2 rfl
  subst e2
  refine ret_int ?_
  refine go_wp rfl (wq_pop dL_law_1095 rfl rfl ?_)
  refine go_wp rfl (wq_goto (t := 1540) dL_law_1096 (by decide) ?_)
  refine go_wp rfl (wq_iinc (v := i + Int32.ofInt 5) (lv' := [some (.ref 1003), some (.ref 0), some (.ref 76), some (.int (i + Int32.ofInt 5))]) dL_law_1540 rfl ⟨Nat.le_of_ble_eq_true rfl, rfl⟩ rfl rfl rfl ?_)
  refine go_wp rfl (wq_goto (t := 18) dL_law_1543 (by decide) ?_)
  exact go_cut rfl ⟨rfl, rfl, hk2, rel_keep hf1 hf2 rfl rfl hR⟩
set_option maxRecDepth 100000 in
set_option maxHeartbeats 40000000 in
theorem case_29 {xs : Nat → Int32} {L : Nat} {i : Int32} {cs : ex_C} (hi1 : 0 ≤ i.toInt) (hi2 : i.toInt + 5 ≤ (L : Int)) (hL : L ≤ 2560) (hk : ab_hk ab_hd cs) (hR : rel_R cs) : ex_go (ec_xt ++ [(L, xs)]) bx_L cL_law (some .boolean) (law_I i) law_Q 60 1099 [some (.ref 1003), some (.ref 0), some (.ref 76), some (.int i)] [] cs := by
  refine go_wp rfl (wq_aload_n dL_law_1099 rfl rfl ?_)
  refine go_wp rfl (wq_aload_n dL_law_1100 rfl rfl ?_)
  refine go_wp rfl (wq_iload_n dL_law_1101 rfl rfl ?_)
  refine go_wp rfl (wq_iconst (v := 1) dL_law_1102 (by decide) rfl ?_)
  refine go_wp rfl (wq_iadd (v := i + 1) dL_law_1103 rfl rfl ?_)
  refine go_wp rfl (wq_ialoadX (j := 3) (v := xs (i + 1).toNatClampNeg) dL_law_1104 rfl rfl (ix_k hi1 hi2 hL (by decide)) rfl rfl ?_)
  obtain ⟨fs1, ho1, -⟩ := hk.obj (a := 0) (ci := 9) rfl
  refine go_wp rfl (wq_virtual (q := 2) (ci := 9) (a := 0) (av := [.ref 0, .int (xs (i + 1).toNatClampNeg)]) (r := []) dL_law_1105 rfl (Nat.le_of_ble_eq_true rfl) rfl rfl rfl (Nat.le_of_ble_eq_true rfl) ho1 rfl (lw_call rfl pr_1 hk (fun r1 cs1 hp1 => ?_)))
  obtain ⟨⟨x1, e1⟩, hk1, hf1⟩ := po_int hp1 rfl
  subst e1
  refine ret_int ?_
  refine go_wp rfl (wq_pop dL_law_1108 rfl rfl ?_)
  refine go_wp rfl (wq_aload_n dL_law_1109 rfl rfl ?_)
  refine go_wp rfl (wq_aload_n dL_law_1110 rfl rfl ?_)
  refine go_wp rfl (wq_iload_n dL_law_1111 rfl rfl ?_)
  refine go_wp rfl (wq_iconst (v := 1) dL_law_1112 (by decide) rfl ?_)
  refine go_wp rfl (wq_iadd (v := i + 1) dL_law_1113 rfl rfl ?_)
  refine go_wp rfl (wq_ialoadX (j := 3) (v := xs (i + 1).toNatClampNeg) dL_law_1114 rfl rfl (ix_k hi1 hi2 hL (by decide)) rfl rfl ?_)
  obtain ⟨fs2, ho2, -⟩ := hk1.obj (a := 76) (ci := 10) rfl
  refine go_wp rfl (wq_virtual (q := 2) (ci := 10) (a := 76) (av := [.ref 76, .int (xs (i + 1).toNatClampNeg)]) (r := []) dL_law_1115 rfl (Nat.le_of_ble_eq_true rfl) rfl rfl rfl (Nat.le_of_ble_eq_true rfl) ho2 rfl (lw_call rfl pr_1 hk1 (fun r2 cs2 hp2 => ?_)))
  obtain ⟨⟨x2, e2⟩, hk2, hf2⟩ := po_int hp2 rfl
  subst e2
  refine ret_int ?_
  refine go_wp rfl (wq_pop dL_law_1118 rfl rfl ?_)
  refine go_wp rfl (wq_goto (t := 1540) dL_law_1119 (by decide) ?_)
  refine go_wp rfl (wq_iinc (v := i + Int32.ofInt 5) (lv' := [some (.ref 1003), some (.ref 0), some (.ref 76), some (.int (i + Int32.ofInt 5))]) dL_law_1540 rfl ⟨Nat.le_of_ble_eq_true rfl, rfl⟩ rfl rfl rfl ?_)
  refine go_wp rfl (wq_goto (t := 18) dL_law_1543 (by decide) ?_)
  exact go_cut rfl ⟨rfl, rfl, hk2, rel_keep hf1 hf2 rfl rfl hR⟩
set_option maxRecDepth 100000 in
set_option maxHeartbeats 40000000 in
theorem case_30 {xs : Nat → Int32} {L : Nat} {i : Int32} {cs : ex_C} (hi1 : 0 ≤ i.toInt) (hi2 : i.toInt + 5 ≤ (L : Int)) (hL : L ≤ 2560) (hk : ab_hk ab_hd cs) (hR : rel_R cs) : ex_go (ec_xt ++ [(L, xs)]) bx_L cL_law (some .boolean) (law_I i) law_Q 60 1122 [some (.ref 1003), some (.ref 0), some (.ref 76), some (.int i)] [] cs := by
  refine go_wp rfl (wq_aload_n dL_law_1122 rfl rfl ?_)
  obtain ⟨fs1, ho1, -⟩ := hk.obj (a := 0) (ci := 9) rfl
  refine go_wp rfl (wq_virtual (q := 1) (ci := 9) (a := 0) (av := [.ref 0]) (r := []) dL_law_1123 rfl (Nat.le_of_ble_eq_true rfl) rfl rfl rfl (Nat.le_of_ble_eq_true rfl) ho1 rfl (lw_call rfl pr_0 hk (fun r1 cs1 hp1 => ?_)))
  obtain ⟨⟨x1, e1⟩, hk1, hf1⟩ := po_int hp1 rfl
  subst e1
  refine ret_int ?_
  refine go_wp rfl (wq_pop dL_law_1126 rfl rfl ?_)
  refine go_wp rfl (wq_aload_n dL_law_1127 rfl rfl ?_)
  obtain ⟨fs2, ho2, -⟩ := hk1.obj (a := 76) (ci := 10) rfl
  refine go_wp rfl (wq_virtual (q := 1) (ci := 10) (a := 76) (av := [.ref 76]) (r := []) dL_law_1128 rfl (Nat.le_of_ble_eq_true rfl) rfl rfl rfl (Nat.le_of_ble_eq_true rfl) ho2 rfl (lw_call rfl pr_0 hk1 (fun r2 cs2 hp2 => ?_)))
  obtain ⟨⟨x2, e2⟩, hk2, hf2⟩ := po_int hp2 rfl
  subst e2
  refine ret_int ?_
  refine go_wp rfl (wq_pop dL_law_1131 rfl rfl ?_)
  refine go_wp rfl (wq_goto (t := 1540) dL_law_1132 (by decide) ?_)
  refine go_wp rfl (wq_iinc (v := i + Int32.ofInt 5) (lv' := [some (.ref 1003), some (.ref 0), some (.ref 76), some (.int (i + Int32.ofInt 5))]) dL_law_1540 rfl ⟨Nat.le_of_ble_eq_true rfl, rfl⟩ rfl rfl rfl ?_)
  refine go_wp rfl (wq_goto (t := 18) dL_law_1543 (by decide) ?_)
  exact go_cut rfl ⟨rfl, rfl, hk2, (step_hunt rfl rfl hp1 hp2 hR)⟩
set_option maxRecDepth 100000 in
set_option maxHeartbeats 40000000 in
theorem case_31 {xs : Nat → Int32} {L : Nat} {i : Int32} {cs : ex_C} (hi1 : 0 ≤ i.toInt) (hi2 : i.toInt + 5 ≤ (L : Int)) (hL : L ≤ 2560) (hk : ab_hk ab_hd cs) (hR : rel_R cs) : ex_go (ec_xt ++ [(L, xs)]) bx_L cL_law (some .boolean) (law_I i) law_Q 60 1135 [some (.ref 1003), some (.ref 0), some (.ref 76), some (.int i)] [] cs := by
  refine go_wp rfl (wq_aload_n dL_law_1135 rfl rfl ?_)
  refine go_wp rfl (wq_aload_n dL_law_1136 rfl rfl ?_)
  refine go_wp rfl (wq_iload_n dL_law_1137 rfl rfl ?_)
  refine go_wp rfl (wq_iconst (v := 1) dL_law_1138 (by decide) rfl ?_)
  refine go_wp rfl (wq_iadd (v := i + 1) dL_law_1139 rfl rfl ?_)
  refine go_wp rfl (wq_ialoadX (j := 3) (v := xs (i + 1).toNatClampNeg) dL_law_1140 rfl rfl (ix_k hi1 hi2 hL (by decide)) rfl rfl ?_)
  refine go_wp rfl (wq_aload_n dL_law_1141 rfl rfl ?_)
  refine go_wp rfl (wq_iload_n dL_law_1142 rfl rfl ?_)
  refine go_wp rfl (wq_iconst (v := 2) dL_law_1143 (by decide) rfl ?_)
  refine go_wp rfl (wq_iadd (v := i + 2) dL_law_1144 rfl rfl ?_)
  refine go_wp rfl (wq_ialoadX (j := 3) (v := xs (i + 2).toNatClampNeg) dL_law_1145 rfl rfl (ix_k hi1 hi2 hL (by decide)) rfl rfl ?_)
  obtain ⟨fs1, ho1, -⟩ := hk.obj (a := 0) (ci := 9) rfl
  refine go_wp rfl (wq_virtual (q := 3) (ci := 9) (a := 0) (av := [.ref 0, .int (xs (i + 1).toNatClampNeg), .int (xs (i + 2).toNatClampNeg)]) (r := []) dL_law_1146 rfl (Nat.le_of_ble_eq_true rfl) rfl rfl rfl (Nat.le_of_ble_eq_true rfl) ho1 rfl (lw_call rfl pr_2 hk (fun r1 cs1 hp1 => ?_)))
  obtain ⟨⟨x1, e1⟩, hk1, hf1⟩ := po_int hp1 rfl
  subst e1
  refine ret_int ?_
  refine go_wp rfl (wq_pop dL_law_1149 rfl rfl ?_)
  refine go_wp rfl (wq_aload_n dL_law_1150 rfl rfl ?_)
  refine go_wp rfl (wq_aload_n dL_law_1151 rfl rfl ?_)
  refine go_wp rfl (wq_iload_n dL_law_1152 rfl rfl ?_)
  refine go_wp rfl (wq_iconst (v := 1) dL_law_1153 (by decide) rfl ?_)
  refine go_wp rfl (wq_iadd (v := i + 1) dL_law_1154 rfl rfl ?_)
  refine go_wp rfl (wq_ialoadX (j := 3) (v := xs (i + 1).toNatClampNeg) dL_law_1155 rfl rfl (ix_k hi1 hi2 hL (by decide)) rfl rfl ?_)
  refine go_wp rfl (wq_aload_n dL_law_1156 rfl rfl ?_)
  refine go_wp rfl (wq_iload_n dL_law_1157 rfl rfl ?_)
  refine go_wp rfl (wq_iconst (v := 2) dL_law_1158 (by decide) rfl ?_)
  refine go_wp rfl (wq_iadd (v := i + 2) dL_law_1159 rfl rfl ?_)
  refine go_wp rfl (wq_ialoadX (j := 3) (v := xs (i + 2).toNatClampNeg) dL_law_1160 rfl rfl (ix_k hi1 hi2 hL (by decide)) rfl rfl ?_)
  obtain ⟨fs2, ho2, -⟩ := hk1.obj (a := 76) (ci := 10) rfl
  refine go_wp rfl (wq_virtual (q := 3) (ci := 10) (a := 76) (av := [.ref 76, .int (xs (i + 1).toNatClampNeg), .int (xs (i + 2).toNatClampNeg)]) (r := []) dL_law_1161 rfl (Nat.le_of_ble_eq_true rfl) rfl rfl rfl (Nat.le_of_ble_eq_true rfl) ho2 rfl (lw_call rfl pr_2 hk1 (fun r2 cs2 hp2 => ?_)))
  obtain ⟨⟨x2, e2⟩, hk2, hf2⟩ := po_int hp2 rfl
  subst e2
  refine ret_int ?_
  refine go_wp rfl (wq_pop dL_law_1164 rfl rfl ?_)
  refine go_wp rfl (wq_goto (t := 1540) dL_law_1165 (by decide) ?_)
  refine go_wp rfl (wq_iinc (v := i + Int32.ofInt 5) (lv' := [some (.ref 1003), some (.ref 0), some (.ref 76), some (.int (i + Int32.ofInt 5))]) dL_law_1540 rfl ⟨Nat.le_of_ble_eq_true rfl, rfl⟩ rfl rfl rfl ?_)
  refine go_wp rfl (wq_goto (t := 18) dL_law_1543 (by decide) ?_)
  exact go_cut rfl ⟨rfl, rfl, hk2, (step_test rfl rfl hp1 hp2 hR)⟩
set_option maxRecDepth 100000 in
set_option maxHeartbeats 40000000 in
theorem case_32 {xs : Nat → Int32} {L : Nat} {i : Int32} {cs : ex_C} (hi1 : 0 ≤ i.toInt) (hi2 : i.toInt + 5 ≤ (L : Int)) (hL : L ≤ 2560) (hk : ab_hk ab_hd cs) (hR : rel_R cs) : ex_go (ec_xt ++ [(L, xs)]) bx_L cL_law (some .boolean) (law_I i) law_Q 60 1168 [some (.ref 1003), some (.ref 0), some (.ref 76), some (.int i)] [] cs := by
  refine go_wp rfl (wq_aload_n dL_law_1168 rfl rfl ?_)
  refine go_wp rfl (wq_aload_n dL_law_1169 rfl rfl ?_)
  refine go_wp rfl (wq_iload_n dL_law_1170 rfl rfl ?_)
  refine go_wp rfl (wq_iconst (v := 1) dL_law_1171 (by decide) rfl ?_)
  refine go_wp rfl (wq_iadd (v := i + 1) dL_law_1172 rfl rfl ?_)
  refine go_wp rfl (wq_ialoadX (j := 3) (v := xs (i + 1).toNatClampNeg) dL_law_1173 rfl rfl (ix_k hi1 hi2 hL (by decide)) rfl rfl ?_)
  obtain ⟨fs1, ho1, -⟩ := hk.obj (a := 0) (ci := 9) rfl
  refine go_wp rfl (wq_virtual (q := 2) (ci := 9) (a := 0) (av := [.ref 0, .int (xs (i + 1).toNatClampNeg)]) (r := []) dL_law_1174 rfl (Nat.le_of_ble_eq_true rfl) rfl rfl rfl (Nat.le_of_ble_eq_true rfl) ho1 rfl (lw_call rfl pr_1 hk (fun r1 cs1 hp1 => ?_)))
  obtain ⟨⟨x1, e1⟩, hk1, hf1⟩ := po_int hp1 rfl
  subst e1
  refine ret_int ?_
  refine go_wp rfl (wq_aload_n dL_law_1177 rfl rfl ?_)
  refine go_wp rfl (wq_aload_n dL_law_1178 rfl rfl ?_)
  refine go_wp rfl (wq_iload_n dL_law_1179 rfl rfl ?_)
  refine go_wp rfl (wq_iconst (v := 1) dL_law_1180 (by decide) rfl ?_)
  refine go_wp rfl (wq_iadd (v := i + 1) dL_law_1181 rfl rfl ?_)
  refine go_wp rfl (wq_ialoadX (j := 3) (v := xs (i + 1).toNatClampNeg) dL_law_1182 rfl rfl (ix_k hi1 hi2 hL (by decide)) rfl rfl ?_)
  obtain ⟨fs2, ho2, -⟩ := hk1.obj (a := 76) (ci := 10) rfl
  refine go_wp rfl (wq_virtual (q := 2) (ci := 10) (a := 76) (av := [.ref 76, .int (xs (i + 1).toNatClampNeg)]) (r := [.int x1]) dL_law_1183 rfl (Nat.le_of_ble_eq_true rfl) rfl rfl rfl (Nat.le_of_ble_eq_true rfl) ho2 rfl (lw_call rfl pr_1 hk1 (fun r2 cs2 hp2 => ?_)))
  obtain ⟨⟨x2, e2⟩, hk2, hf2⟩ := po_int hp2 rfl
  subst e2
  refine ret_int ?_
  refine go_wp rfl (wq_icmp_eq_t (t := 1540) dL_law_1186 (by decide) (step_best rfl rfl hp1 hp2 hR).1 ?_)
  refine go_wp rfl (wq_iinc (v := i + Int32.ofInt 5) (lv' := [some (.ref 1003), some (.ref 0), some (.ref 76), some (.int (i + Int32.ofInt 5))]) dL_law_1540 rfl ⟨Nat.le_of_ble_eq_true rfl, rfl⟩ rfl rfl rfl ?_)
  refine go_wp rfl (wq_goto (t := 18) dL_law_1543 (by decide) ?_)
  exact go_cut rfl ⟨rfl, rfl, hk2, (step_best rfl rfl hp1 hp2 hR).2⟩
set_option maxRecDepth 100000 in
set_option maxHeartbeats 40000000 in
theorem case_33 {xs : Nat → Int32} {L : Nat} {i : Int32} {cs : ex_C} (hi1 : 0 ≤ i.toInt) (hi2 : i.toInt + 5 ≤ (L : Int)) (hL : L ≤ 2560) (hk : ab_hk ab_hd cs) (hR : rel_R cs) : ex_go (ec_xt ++ [(L, xs)]) bx_L cL_law (some .boolean) (law_I i) law_Q 60 1191 [some (.ref 1003), some (.ref 0), some (.ref 76), some (.int i)] [] cs := by
  refine go_wp rfl (wq_aload_n dL_law_1191 rfl rfl ?_)
  obtain ⟨fs1, ho1, -⟩ := hk.obj (a := 0) (ci := 9) rfl
  refine go_wp rfl (wq_virtual (q := 1) (ci := 9) (a := 0) (av := [.ref 0]) (r := []) dL_law_1192 rfl (Nat.le_of_ble_eq_true rfl) rfl rfl rfl (Nat.le_of_ble_eq_true rfl) ho1 rfl (lw_call rfl pr_0 hk (fun r1 cs1 hp1 => ?_)))
  obtain ⟨⟨x1, e1⟩, hk1, hf1⟩ := po_int hp1 rfl
  subst e1
  refine ret_int ?_
  refine go_wp rfl (wq_pop dL_law_1195 rfl rfl ?_)
  refine go_wp rfl (wq_aload_n dL_law_1196 rfl rfl ?_)
  obtain ⟨fs2, ho2, -⟩ := hk1.obj (a := 76) (ci := 10) rfl
  refine go_wp rfl (wq_virtual (q := 1) (ci := 10) (a := 76) (av := [.ref 76]) (r := []) dL_law_1197 rfl (Nat.le_of_ble_eq_true rfl) rfl rfl rfl (Nat.le_of_ble_eq_true rfl) ho2 rfl (lw_call rfl pr_0 hk1 (fun r2 cs2 hp2 => ?_)))
  obtain ⟨⟨x2, e2⟩, hk2, hf2⟩ := po_int hp2 rfl
  subst e2
  refine ret_int ?_
  refine go_wp rfl (wq_pop dL_law_1200 rfl rfl ?_)
  refine go_wp rfl (wq_goto (t := 1540) dL_law_1201 (by decide) ?_)
  refine go_wp rfl (wq_iinc (v := i + Int32.ofInt 5) (lv' := [some (.ref 1003), some (.ref 0), some (.ref 76), some (.int (i + Int32.ofInt 5))]) dL_law_1540 rfl ⟨Nat.le_of_ble_eq_true rfl, rfl⟩ rfl rfl rfl ?_)
  refine go_wp rfl (wq_goto (t := 18) dL_law_1543 (by decide) ?_)
  exact go_cut rfl ⟨rfl, rfl, hk2, rel_keep hf1 hf2 rfl rfl hR⟩
set_option maxRecDepth 100000 in
set_option maxHeartbeats 40000000 in
theorem case_34 {xs : Nat → Int32} {L : Nat} {i : Int32} {cs : ex_C} (hi1 : 0 ≤ i.toInt) (hi2 : i.toInt + 5 ≤ (L : Int)) (hL : L ≤ 2560) (hk : ab_hk ab_hd cs) (hR : rel_R cs) : ex_go (ec_xt ++ [(L, xs)]) bx_L cL_law (some .boolean) (law_I i) law_Q 60 1204 [some (.ref 1003), some (.ref 0), some (.ref 76), some (.int i)] [] cs := by
  refine go_wp rfl (wq_aload_n dL_law_1204 rfl rfl ?_)
  refine go_wp rfl (wq_aload_n dL_law_1205 rfl rfl ?_)
  refine go_wp rfl (wq_iload_n dL_law_1206 rfl rfl ?_)
  refine go_wp rfl (wq_iconst (v := 1) dL_law_1207 (by decide) rfl ?_)
  refine go_wp rfl (wq_iadd (v := i + 1) dL_law_1208 rfl rfl ?_)
  refine go_wp rfl (wq_ialoadX (j := 3) (v := xs (i + 1).toNatClampNeg) dL_law_1209 rfl rfl (ix_k hi1 hi2 hL (by decide)) rfl rfl ?_)
  refine go_wp rfl (wq_aload_n dL_law_1210 rfl rfl ?_)
  refine go_wp rfl (wq_iload_n dL_law_1211 rfl rfl ?_)
  refine go_wp rfl (wq_iconst (v := 2) dL_law_1212 (by decide) rfl ?_)
  refine go_wp rfl (wq_iadd (v := i + 2) dL_law_1213 rfl rfl ?_)
  refine go_wp rfl (wq_ialoadX (j := 3) (v := xs (i + 2).toNatClampNeg) dL_law_1214 rfl rfl (ix_k hi1 hi2 hL (by decide)) rfl rfl ?_)
  obtain ⟨fs1, ho1, -⟩ := hk.obj (a := 0) (ci := 9) rfl
  refine go_wp rfl (wq_virtual (q := 3) (ci := 9) (a := 0) (av := [.ref 0, .int (xs (i + 1).toNatClampNeg), .int (xs (i + 2).toNatClampNeg)]) (r := []) dL_law_1215 rfl (Nat.le_of_ble_eq_true rfl) rfl rfl rfl (Nat.le_of_ble_eq_true rfl) ho1 rfl (lw_call rfl pr_2 hk (fun r1 cs1 hp1 => ?_)))
  obtain ⟨⟨x1, e1⟩, hk1, hf1⟩ := po_int hp1 rfl
  subst e1
  refine ret_int ?_
  refine go_wp rfl (wq_pop dL_law_1218 rfl rfl ?_)
  refine go_wp rfl (wq_aload_n dL_law_1219 rfl rfl ?_)
  refine go_wp rfl (wq_aload_n dL_law_1220 rfl rfl ?_)
  refine go_wp rfl (wq_iload_n dL_law_1221 rfl rfl ?_)
  refine go_wp rfl (wq_iconst (v := 1) dL_law_1222 (by decide) rfl ?_)
  refine go_wp rfl (wq_iadd (v := i + 1) dL_law_1223 rfl rfl ?_)
  refine go_wp rfl (wq_ialoadX (j := 3) (v := xs (i + 1).toNatClampNeg) dL_law_1224 rfl rfl (ix_k hi1 hi2 hL (by decide)) rfl rfl ?_)
  refine go_wp rfl (wq_aload_n dL_law_1225 rfl rfl ?_)
  refine go_wp rfl (wq_iload_n dL_law_1226 rfl rfl ?_)
  refine go_wp rfl (wq_iconst (v := 2) dL_law_1227 (by decide) rfl ?_)
  refine go_wp rfl (wq_iadd (v := i + 2) dL_law_1228 rfl rfl ?_)
  refine go_wp rfl (wq_ialoadX (j := 3) (v := xs (i + 2).toNatClampNeg) dL_law_1229 rfl rfl (ix_k hi1 hi2 hL (by decide)) rfl rfl ?_)
  obtain ⟨fs2, ho2, -⟩ := hk1.obj (a := 76) (ci := 10) rfl
  refine go_wp rfl (wq_virtual (q := 3) (ci := 10) (a := 76) (av := [.ref 76, .int (xs (i + 1).toNatClampNeg), .int (xs (i + 2).toNatClampNeg)]) (r := []) dL_law_1230 rfl (Nat.le_of_ble_eq_true rfl) rfl rfl rfl (Nat.le_of_ble_eq_true rfl) ho2 rfl (lw_call rfl pr_2 hk1 (fun r2 cs2 hp2 => ?_)))
  obtain ⟨⟨x2, e2⟩, hk2, hf2⟩ := po_int hp2 rfl
  subst e2
  refine ret_int ?_
  refine go_wp rfl (wq_pop dL_law_1233 rfl rfl ?_)
  refine go_wp rfl (wq_goto (t := 1540) dL_law_1234 (by decide) ?_)
  refine go_wp rfl (wq_iinc (v := i + Int32.ofInt 5) (lv' := [some (.ref 1003), some (.ref 0), some (.ref 76), some (.int (i + Int32.ofInt 5))]) dL_law_1540 rfl ⟨Nat.le_of_ble_eq_true rfl, rfl⟩ rfl rfl rfl ?_)
  refine go_wp rfl (wq_goto (t := 18) dL_law_1543 (by decide) ?_)
  exact go_cut rfl ⟨rfl, rfl, hk2, rel_keep hf1 hf2 rfl rfl hR⟩
set_option maxRecDepth 100000 in
set_option maxHeartbeats 40000000 in
theorem case_35 {xs : Nat → Int32} {L : Nat} {i : Int32} {cs : ex_C} (hi1 : 0 ≤ i.toInt) (hi2 : i.toInt + 5 ≤ (L : Int)) (hL : L ≤ 2560) (hk : ab_hk ab_hd cs) (hR : rel_R cs) : ex_go (ec_xt ++ [(L, xs)]) bx_L cL_law (some .boolean) (law_I i) law_Q 60 1237 [some (.ref 1003), some (.ref 0), some (.ref 76), some (.int i)] [] cs := by
  refine go_wp rfl (wq_aload_n dL_law_1237 rfl rfl ?_)
  refine go_wp rfl (wq_aload_n dL_law_1238 rfl rfl ?_)
  refine go_wp rfl (wq_iload_n dL_law_1239 rfl rfl ?_)
  refine go_wp rfl (wq_iconst (v := 1) dL_law_1240 (by decide) rfl ?_)
  refine go_wp rfl (wq_iadd (v := i + 1) dL_law_1241 rfl rfl ?_)
  refine go_wp rfl (wq_ialoadX (j := 3) (v := xs (i + 1).toNatClampNeg) dL_law_1242 rfl rfl (ix_k hi1 hi2 hL (by decide)) rfl rfl ?_)
  refine go_wp rfl (wq_aload_n dL_law_1243 rfl rfl ?_)
  refine go_wp rfl (wq_iload_n dL_law_1244 rfl rfl ?_)
  refine go_wp rfl (wq_iconst (v := 2) dL_law_1245 (by decide) rfl ?_)
  refine go_wp rfl (wq_iadd (v := i + 2) dL_law_1246 rfl rfl ?_)
  refine go_wp rfl (wq_ialoadX (j := 3) (v := xs (i + 2).toNatClampNeg) dL_law_1247 rfl rfl (ix_k hi1 hi2 hL (by decide)) rfl rfl ?_)
  obtain ⟨fs1, ho1, -⟩ := hk.obj (a := 0) (ci := 9) rfl
  refine go_wp rfl (wq_virtual (q := 3) (ci := 9) (a := 0) (av := [.ref 0, .int (xs (i + 1).toNatClampNeg), .int (xs (i + 2).toNatClampNeg)]) (r := []) dL_law_1248 rfl (Nat.le_of_ble_eq_true rfl) rfl rfl rfl (Nat.le_of_ble_eq_true rfl) ho1 rfl (lw_call rfl pr_2 hk (fun r1 cs1 hp1 => ?_)))
  obtain ⟨⟨x1, e1⟩, hk1, hf1⟩ := po_int hp1 rfl
  subst e1
  refine ret_int ?_
  refine go_wp rfl (wq_pop dL_law_1251 rfl rfl ?_)
  refine go_wp rfl (wq_aload_n dL_law_1252 rfl rfl ?_)
  refine go_wp rfl (wq_aload_n dL_law_1253 rfl rfl ?_)
  refine go_wp rfl (wq_iload_n dL_law_1254 rfl rfl ?_)
  refine go_wp rfl (wq_iconst (v := 1) dL_law_1255 (by decide) rfl ?_)
  refine go_wp rfl (wq_iadd (v := i + 1) dL_law_1256 rfl rfl ?_)
  refine go_wp rfl (wq_ialoadX (j := 3) (v := xs (i + 1).toNatClampNeg) dL_law_1257 rfl rfl (ix_k hi1 hi2 hL (by decide)) rfl rfl ?_)
  refine go_wp rfl (wq_aload_n dL_law_1258 rfl rfl ?_)
  refine go_wp rfl (wq_iload_n dL_law_1259 rfl rfl ?_)
  refine go_wp rfl (wq_iconst (v := 2) dL_law_1260 (by decide) rfl ?_)
  refine go_wp rfl (wq_iadd (v := i + 2) dL_law_1261 rfl rfl ?_)
  refine go_wp rfl (wq_ialoadX (j := 3) (v := xs (i + 2).toNatClampNeg) dL_law_1262 rfl rfl (ix_k hi1 hi2 hL (by decide)) rfl rfl ?_)
  obtain ⟨fs2, ho2, -⟩ := hk1.obj (a := 76) (ci := 10) rfl
  refine go_wp rfl (wq_virtual (q := 3) (ci := 10) (a := 76) (av := [.ref 76, .int (xs (i + 1).toNatClampNeg), .int (xs (i + 2).toNatClampNeg)]) (r := []) dL_law_1263 rfl (Nat.le_of_ble_eq_true rfl) rfl rfl rfl (Nat.le_of_ble_eq_true rfl) ho2 rfl (lw_call rfl pr_2 hk1 (fun r2 cs2 hp2 => ?_)))
  obtain ⟨⟨x2, e2⟩, hk2, hf2⟩ := po_int hp2 rfl
  subst e2
  refine ret_int ?_
  refine go_wp rfl (wq_pop dL_law_1266 rfl rfl ?_)
  refine go_wp rfl (wq_goto (t := 1540) dL_law_1267 (by decide) ?_)
  refine go_wp rfl (wq_iinc (v := i + Int32.ofInt 5) (lv' := [some (.ref 1003), some (.ref 0), some (.ref 76), some (.int (i + Int32.ofInt 5))]) dL_law_1540 rfl ⟨Nat.le_of_ble_eq_true rfl, rfl⟩ rfl rfl rfl ?_)
  refine go_wp rfl (wq_goto (t := 18) dL_law_1543 (by decide) ?_)
  exact go_cut rfl ⟨rfl, rfl, hk2, rel_keep hf1 hf2 rfl rfl hR⟩

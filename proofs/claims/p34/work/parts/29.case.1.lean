set_option maxRecDepth 100000 in
set_option maxHeartbeats 40000000 in
theorem case_12 {xs : Nat → Int32} {L : Nat} {i : Int32} {cs : ex_C} (hi1 : 0 ≤ i.toInt) (hi2 : i.toInt + 5 ≤ (L : Int)) (hL : L ≤ 2560) (hk : ab_hk ab_hd cs) (hR : rel_R cs) : ex_go (ec_xt ++ [(L, xs)]) bx_L cL_law (some .boolean) (law_I i) law_Q 60 608 [some (.ref 1003), some (.ref 0), some (.ref 76), some (.int i)] [] cs := by
  refine go_wp rfl (wq_aload_n dL_law_608 rfl rfl ?_)
  refine go_wp rfl (wq_aload_n dL_law_609 rfl rfl ?_)
  refine go_wp rfl (wq_iload_n dL_law_610 rfl rfl ?_)
  refine go_wp rfl (wq_iconst (v := 1) dL_law_611 (by decide) rfl ?_)
  refine go_wp rfl (wq_iadd (v := i + 1) dL_law_612 rfl rfl ?_)
  refine go_wp rfl (wq_ialoadX (j := 3) (v := xs (i + 1).toNatClampNeg) dL_law_613 rfl rfl (ix_k hi1 hi2 hL (by decide)) rfl rfl ?_)
  refine go_wp rfl (wq_aload_n dL_law_614 rfl rfl ?_)
  refine go_wp rfl (wq_iload_n dL_law_615 rfl rfl ?_)
  refine go_wp rfl (wq_iconst (v := 2) dL_law_616 (by decide) rfl ?_)
  refine go_wp rfl (wq_iadd (v := i + 2) dL_law_617 rfl rfl ?_)
  refine go_wp rfl (wq_ialoadX (j := 3) (v := xs (i + 2).toNatClampNeg) dL_law_618 rfl rfl (ix_k hi1 hi2 hL (by decide)) rfl rfl ?_)
  obtain ⟨fs1, ho1, -⟩ := hk.obj (a := 0) (ci := 9) rfl
  refine go_wp rfl (wq_virtual (q := 3) (ci := 9) (a := 0) (av := [.ref 0, .int (xs (i + 1).toNatClampNeg), .int (xs (i + 2).toNatClampNeg)]) (r := []) dL_law_619 rfl (Nat.le_of_ble_eq_true rfl) rfl rfl rfl (Nat.le_of_ble_eq_true rfl) ho1 rfl (lw_call rfl pr_2 hk (fun r1 cs1 hp1 => ?_)))
  obtain ⟨⟨x1, e1⟩, hk1, hf1⟩ := po_int hp1 rfl
  subst e1
  refine ret_int ?_
  refine go_wp rfl (wq_pop dL_law_622 rfl rfl ?_)
  refine go_wp rfl (wq_aload_n dL_law_623 rfl rfl ?_)
  refine go_wp rfl (wq_aload_n dL_law_624 rfl rfl ?_)
  refine go_wp rfl (wq_iload_n dL_law_625 rfl rfl ?_)
  refine go_wp rfl (wq_iconst (v := 1) dL_law_626 (by decide) rfl ?_)
  refine go_wp rfl (wq_iadd (v := i + 1) dL_law_627 rfl rfl ?_)
  refine go_wp rfl (wq_ialoadX (j := 3) (v := xs (i + 1).toNatClampNeg) dL_law_628 rfl rfl (ix_k hi1 hi2 hL (by decide)) rfl rfl ?_)
  refine go_wp rfl (wq_aload_n dL_law_629 rfl rfl ?_)
  refine go_wp rfl (wq_iload_n dL_law_630 rfl rfl ?_)
  refine go_wp rfl (wq_iconst (v := 2) dL_law_631 (by decide) rfl ?_)
  refine go_wp rfl (wq_iadd (v := i + 2) dL_law_632 rfl rfl ?_)
  refine go_wp rfl (wq_ialoadX (j := 3) (v := xs (i + 2).toNatClampNeg) dL_law_633 rfl rfl (ix_k hi1 hi2 hL (by decide)) rfl rfl ?_)
  obtain ⟨fs2, ho2, -⟩ := hk1.obj (a := 76) (ci := 10) rfl
  refine go_wp rfl (wq_virtual (q := 3) (ci := 10) (a := 76) (av := [.ref 76, .int (xs (i + 1).toNatClampNeg), .int (xs (i + 2).toNatClampNeg)]) (r := []) dL_law_634 rfl (Nat.le_of_ble_eq_true rfl) rfl rfl rfl (Nat.le_of_ble_eq_true rfl) ho2 rfl (lw_call rfl pr_2 hk1 (fun r2 cs2 hp2 => ?_)))
  obtain ⟨⟨x2, e2⟩, hk2, hf2⟩ := po_int hp2 rfl
  subst e2
  refine ret_int ?_
  refine go_wp rfl (wq_pop dL_law_637 rfl rfl ?_)
  refine go_wp rfl (wq_goto (t := 1540) dL_law_638 (by decide) ?_)
  refine go_wp rfl (wq_iinc (v := i + Int32.ofInt 5) (lv' := [some (.ref 1003), some (.ref 0), some (.ref 76), some (.int (i + Int32.ofInt 5))]) dL_law_1540 rfl ⟨Nat.le_of_ble_eq_true rfl, rfl⟩ rfl rfl rfl ?_)
  refine go_wp rfl (wq_goto (t := 18) dL_law_1543 (by decide) ?_)
  exact go_cut rfl ⟨rfl, rfl, hk2, rel_keep hf1 hf2 rfl rfl hR⟩
set_option maxRecDepth 100000 in
set_option maxHeartbeats 40000000 in
theorem case_13 {xs : Nat → Int32} {L : Nat} {i : Int32} {cs : ex_C} (hi1 : 0 ≤ i.toInt) (hi2 : i.toInt + 5 ≤ (L : Int)) (hL : L ≤ 2560) (hk : ab_hk ab_hd cs) (hR : rel_R cs) : ex_go (ec_xt ++ [(L, xs)]) bx_L cL_law (some .boolean) (law_I i) law_Q 60 641 [some (.ref 1003), some (.ref 0), some (.ref 76), some (.int i)] [] cs := by
  refine go_wp rfl (wq_aload_n dL_law_641 rfl rfl ?_)
  refine go_wp rfl (wq_aload_n dL_law_642 rfl rfl ?_)
  refine go_wp rfl (wq_iload_n dL_law_643 rfl rfl ?_)
  refine go_wp rfl (wq_iconst (v := 1) dL_law_644 (by decide) rfl ?_)
  refine go_wp rfl (wq_iadd (v := i + 1) dL_law_645 rfl rfl ?_)
  refine go_wp rfl (wq_ialoadX (j := 3) (v := xs (i + 1).toNatClampNeg) dL_law_646 rfl rfl (ix_k hi1 hi2 hL (by decide)) rfl rfl ?_)
  refine go_wp rfl (wq_aload_n dL_law_647 rfl rfl ?_)
  refine go_wp rfl (wq_iload_n dL_law_648 rfl rfl ?_)
  refine go_wp rfl (wq_iconst (v := 2) dL_law_649 (by decide) rfl ?_)
  refine go_wp rfl (wq_iadd (v := i + 2) dL_law_650 rfl rfl ?_)
  refine go_wp rfl (wq_ialoadX (j := 3) (v := xs (i + 2).toNatClampNeg) dL_law_651 rfl rfl (ix_k hi1 hi2 hL (by decide)) rfl rfl ?_)
  obtain ⟨fs1, ho1, -⟩ := hk.obj (a := 0) (ci := 9) rfl
  refine go_wp rfl (wq_virtual (q := 3) (ci := 9) (a := 0) (av := [.ref 0, .int (xs (i + 1).toNatClampNeg), .int (xs (i + 2).toNatClampNeg)]) (r := []) dL_law_652 rfl (Nat.le_of_ble_eq_true rfl) rfl rfl rfl (Nat.le_of_ble_eq_true rfl) ho1 rfl (lw_call rfl pr_2 hk (fun r1 cs1 hp1 => ?_)))
  obtain ⟨⟨x1, e1⟩, hk1, hf1⟩ := po_int hp1 rfl
  subst e1
  refine ret_int ?_
  refine go_wp rfl (wq_pop dL_law_655 rfl rfl ?_)
  refine go_wp rfl (wq_aload_n dL_law_656 rfl rfl ?_)
  refine go_wp rfl (wq_aload_n dL_law_657 rfl rfl ?_)
  refine go_wp rfl (wq_iload_n dL_law_658 rfl rfl ?_)
  refine go_wp rfl (wq_iconst (v := 1) dL_law_659 (by decide) rfl ?_)
  refine go_wp rfl (wq_iadd (v := i + 1) dL_law_660 rfl rfl ?_)
  refine go_wp rfl (wq_ialoadX (j := 3) (v := xs (i + 1).toNatClampNeg) dL_law_661 rfl rfl (ix_k hi1 hi2 hL (by decide)) rfl rfl ?_)
  refine go_wp rfl (wq_aload_n dL_law_662 rfl rfl ?_)
  refine go_wp rfl (wq_iload_n dL_law_663 rfl rfl ?_)
  refine go_wp rfl (wq_iconst (v := 2) dL_law_664 (by decide) rfl ?_)
  refine go_wp rfl (wq_iadd (v := i + 2) dL_law_665 rfl rfl ?_)
  refine go_wp rfl (wq_ialoadX (j := 3) (v := xs (i + 2).toNatClampNeg) dL_law_666 rfl rfl (ix_k hi1 hi2 hL (by decide)) rfl rfl ?_)
  obtain ⟨fs2, ho2, -⟩ := hk1.obj (a := 76) (ci := 10) rfl
  refine go_wp rfl (wq_virtual (q := 3) (ci := 10) (a := 76) (av := [.ref 76, .int (xs (i + 1).toNatClampNeg), .int (xs (i + 2).toNatClampNeg)]) (r := []) dL_law_667 rfl (Nat.le_of_ble_eq_true rfl) rfl rfl rfl (Nat.le_of_ble_eq_true rfl) ho2 rfl (lw_call rfl pr_2 hk1 (fun r2 cs2 hp2 => ?_)))
  obtain ⟨⟨x2, e2⟩, hk2, hf2⟩ := po_int hp2 rfl
  subst e2
  refine ret_int ?_
  refine go_wp rfl (wq_pop dL_law_670 rfl rfl ?_)
  refine go_wp rfl (wq_goto (t := 1540) dL_law_671 (by decide) ?_)
  refine go_wp rfl (wq_iinc (v := i + Int32.ofInt 5) (lv' := [some (.ref 1003), some (.ref 0), some (.ref 76), some (.int (i + Int32.ofInt 5))]) dL_law_1540 rfl ⟨Nat.le_of_ble_eq_true rfl, rfl⟩ rfl rfl rfl ?_)
  refine go_wp rfl (wq_goto (t := 18) dL_law_1543 (by decide) ?_)
  exact go_cut rfl ⟨rfl, rfl, hk2, rel_keep hf1 hf2 rfl rfl hR⟩
set_option maxRecDepth 100000 in
set_option maxHeartbeats 40000000 in
theorem case_14 {xs : Nat → Int32} {L : Nat} {i : Int32} {cs : ex_C} (hi1 : 0 ≤ i.toInt) (hi2 : i.toInt + 5 ≤ (L : Int)) (hL : L ≤ 2560) (hk : ab_hk ab_hd cs) (hR : rel_R cs) : ex_go (ec_xt ++ [(L, xs)]) bx_L cL_law (some .boolean) (law_I i) law_Q 60 674 [some (.ref 1003), some (.ref 0), some (.ref 76), some (.int i)] [] cs := by
  refine go_wp rfl (wq_aload_n dL_law_674 rfl rfl ?_)
  refine go_wp rfl (wq_aload_n dL_law_675 rfl rfl ?_)
  refine go_wp rfl (wq_iload_n dL_law_676 rfl rfl ?_)
  refine go_wp rfl (wq_iconst (v := 1) dL_law_677 (by decide) rfl ?_)
  refine go_wp rfl (wq_iadd (v := i + 1) dL_law_678 rfl rfl ?_)
  refine go_wp rfl (wq_ialoadX (j := 3) (v := xs (i + 1).toNatClampNeg) dL_law_679 rfl rfl (ix_k hi1 hi2 hL (by decide)) rfl rfl ?_)
  refine go_wp rfl (wq_aload_n dL_law_680 rfl rfl ?_)
  refine go_wp rfl (wq_iload_n dL_law_681 rfl rfl ?_)
  refine go_wp rfl (wq_iconst (v := 2) dL_law_682 (by decide) rfl ?_)
  refine go_wp rfl (wq_iadd (v := i + 2) dL_law_683 rfl rfl ?_)
  refine go_wp rfl (wq_ialoadX (j := 3) (v := xs (i + 2).toNatClampNeg) dL_law_684 rfl rfl (ix_k hi1 hi2 hL (by decide)) rfl rfl ?_)
  obtain ⟨fs1, ho1, -⟩ := hk.obj (a := 0) (ci := 9) rfl
  refine go_wp rfl (wq_virtual (q := 3) (ci := 9) (a := 0) (av := [.ref 0, .int (xs (i + 1).toNatClampNeg), .int (xs (i + 2).toNatClampNeg)]) (r := []) dL_law_685 rfl (Nat.le_of_ble_eq_true rfl) rfl rfl rfl (Nat.le_of_ble_eq_true rfl) ho1 rfl (lw_call rfl pr_2 hk (fun r1 cs1 hp1 => ?_)))
  obtain ⟨⟨x1, e1⟩, hk1, hf1⟩ := po_int hp1 rfl
  subst e1
  refine ret_int ?_
  refine go_wp rfl (wq_pop dL_law_688 rfl rfl ?_)
  refine go_wp rfl (wq_aload_n dL_law_689 rfl rfl ?_)
  refine go_wp rfl (wq_aload_n dL_law_690 rfl rfl ?_)
  refine go_wp rfl (wq_iload_n dL_law_691 rfl rfl ?_)
  refine go_wp rfl (wq_iconst (v := 1) dL_law_692 (by decide) rfl ?_)
  refine go_wp rfl (wq_iadd (v := i + 1) dL_law_693 rfl rfl ?_)
  refine go_wp rfl (wq_ialoadX (j := 3) (v := xs (i + 1).toNatClampNeg) dL_law_694 rfl rfl (ix_k hi1 hi2 hL (by decide)) rfl rfl ?_)
  refine go_wp rfl (wq_aload_n dL_law_695 rfl rfl ?_)
  refine go_wp rfl (wq_iload_n dL_law_696 rfl rfl ?_)
  refine go_wp rfl (wq_iconst (v := 2) dL_law_697 (by decide) rfl ?_)
  refine go_wp rfl (wq_iadd (v := i + 2) dL_law_698 rfl rfl ?_)
  refine go_wp rfl (wq_ialoadX (j := 3) (v := xs (i + 2).toNatClampNeg) dL_law_699 rfl rfl (ix_k hi1 hi2 hL (by decide)) rfl rfl ?_)
  obtain ⟨fs2, ho2, -⟩ := hk1.obj (a := 76) (ci := 10) rfl
  refine go_wp rfl (wq_virtual (q := 3) (ci := 10) (a := 76) (av := [.ref 76, .int (xs (i + 1).toNatClampNeg), .int (xs (i + 2).toNatClampNeg)]) (r := []) dL_law_700 rfl (Nat.le_of_ble_eq_true rfl) rfl rfl rfl (Nat.le_of_ble_eq_true rfl) ho2 rfl (lw_call rfl pr_2 hk1 (fun r2 cs2 hp2 => ?_)))
  obtain ⟨⟨x2, e2⟩, hk2, hf2⟩ := po_int hp2 rfl
  subst e2
  refine ret_int ?_
  refine go_wp rfl (wq_pop dL_law_703 rfl rfl ?_)
  refine go_wp rfl (wq_goto (t := 1540) dL_law_704 (by decide) ?_)
  refine go_wp rfl (wq_iinc (v := i + Int32.ofInt 5) (lv' := [some (.ref 1003), some (.ref 0), some (.ref 76), some (.int (i + Int32.ofInt 5))]) dL_law_1540 rfl ⟨Nat.le_of_ble_eq_true rfl, rfl⟩ rfl rfl rfl ?_)
  refine go_wp rfl (wq_goto (t := 18) dL_law_1543 (by decide) ?_)
  exact go_cut rfl ⟨rfl, rfl, hk2, rel_keep hf1 hf2 rfl rfl hR⟩
set_option maxRecDepth 100000 in
set_option maxHeartbeats 40000000 in
theorem case_15 {xs : Nat → Int32} {L : Nat} {i : Int32} {cs : ex_C} (hi1 : 0 ≤ i.toInt) (hi2 : i.toInt + 5 ≤ (L : Int)) (hL : L ≤ 2560) (hk : ab_hk ab_hd cs) (hR : rel_R cs) : ex_go (ec_xt ++ [(L, xs)]) bx_L cL_law (some .boolean) (law_I i) law_Q 60 707 [some (.ref 1003), some (.ref 0), some (.ref 76), some (.int i)] [] cs := by
  refine go_wp rfl (wq_aload_n dL_law_707 rfl rfl ?_)
  refine go_wp rfl (wq_aload_n dL_law_708 rfl rfl ?_)
  refine go_wp rfl (wq_iload_n dL_law_709 rfl rfl ?_)
  refine go_wp rfl (wq_iconst (v := 1) dL_law_710 (by decide) rfl ?_)
  refine go_wp rfl (wq_iadd (v := i + 1) dL_law_711 rfl rfl ?_)
  refine go_wp rfl (wq_ialoadX (j := 3) (v := xs (i + 1).toNatClampNeg) dL_law_712 rfl rfl (ix_k hi1 hi2 hL (by decide)) rfl rfl ?_)
  refine go_wp rfl (wq_aload_n dL_law_713 rfl rfl ?_)
  refine go_wp rfl (wq_iload_n dL_law_714 rfl rfl ?_)
  refine go_wp rfl (wq_iconst (v := 2) dL_law_715 (by decide) rfl ?_)
  refine go_wp rfl (wq_iadd (v := i + 2) dL_law_716 rfl rfl ?_)
  refine go_wp rfl (wq_ialoadX (j := 3) (v := xs (i + 2).toNatClampNeg) dL_law_717 rfl rfl (ix_k hi1 hi2 hL (by decide)) rfl rfl ?_)
  obtain ⟨fs1, ho1, -⟩ := hk.obj (a := 0) (ci := 9) rfl
  refine go_wp rfl (wq_virtual (q := 3) (ci := 9) (a := 0) (av := [.ref 0, .int (xs (i + 1).toNatClampNeg), .int (xs (i + 2).toNatClampNeg)]) (r := []) dL_law_718 rfl (Nat.le_of_ble_eq_true rfl) rfl rfl rfl (Nat.le_of_ble_eq_true rfl) ho1 rfl (lw_call rfl pr_2 hk (fun r1 cs1 hp1 => ?_)))
  obtain ⟨⟨x1, e1⟩, hk1, hf1⟩ := po_int hp1 rfl
  subst e1
  refine ret_int ?_
  refine go_wp rfl (wq_pop dL_law_721 rfl rfl ?_)
  refine go_wp rfl (wq_aload_n dL_law_722 rfl rfl ?_)
  refine go_wp rfl (wq_aload_n dL_law_723 rfl rfl ?_)
  refine go_wp rfl (wq_iload_n dL_law_724 rfl rfl ?_)
  refine go_wp rfl (wq_iconst (v := 1) dL_law_725 (by decide) rfl ?_)
  refine go_wp rfl (wq_iadd (v := i + 1) dL_law_726 rfl rfl ?_)
  refine go_wp rfl (wq_ialoadX (j := 3) (v := xs (i + 1).toNatClampNeg) dL_law_727 rfl rfl (ix_k hi1 hi2 hL (by decide)) rfl rfl ?_)
  refine go_wp rfl (wq_aload_n dL_law_728 rfl rfl ?_)
  refine go_wp rfl (wq_iload_n dL_law_729 rfl rfl ?_)
  refine go_wp rfl (wq_iconst (v := 2) dL_law_730 (by decide) rfl ?_)
  refine go_wp rfl (wq_iadd (v := i + 2) dL_law_731 rfl rfl ?_)
  refine go_wp rfl (wq_ialoadX (j := 3) (v := xs (i + 2).toNatClampNeg) dL_law_732 rfl rfl (ix_k hi1 hi2 hL (by decide)) rfl rfl ?_)
  obtain ⟨fs2, ho2, -⟩ := hk1.obj (a := 76) (ci := 10) rfl
  refine go_wp rfl (wq_virtual (q := 3) (ci := 10) (a := 76) (av := [.ref 76, .int (xs (i + 1).toNatClampNeg), .int (xs (i + 2).toNatClampNeg)]) (r := []) dL_law_733 rfl (Nat.le_of_ble_eq_true rfl) rfl rfl rfl (Nat.le_of_ble_eq_true rfl) ho2 rfl (lw_call rfl pr_2 hk1 (fun r2 cs2 hp2 => ?_)))
  obtain ⟨⟨x2, e2⟩, hk2, hf2⟩ := po_int hp2 rfl
  subst e2
  refine ret_int ?_
  refine go_wp rfl (wq_pop dL_law_736 rfl rfl ?_)
  refine go_wp rfl (wq_goto (t := 1540) dL_law_737 (by decide) ?_)
  refine go_wp rfl (wq_iinc (v := i + Int32.ofInt 5) (lv' := [some (.ref 1003), some (.ref 0), some (.ref 76), some (.int (i + Int32.ofInt 5))]) dL_law_1540 rfl ⟨Nat.le_of_ble_eq_true rfl, rfl⟩ rfl rfl rfl ?_)
  refine go_wp rfl (wq_goto (t := 18) dL_law_1543 (by decide) ?_)
  exact go_cut rfl ⟨rfl, rfl, hk2, rel_keep hf1 hf2 rfl rfl hR⟩
set_option maxRecDepth 100000 in
set_option maxHeartbeats 40000000 in
theorem case_16 {xs : Nat → Int32} {L : Nat} {i : Int32} {cs : ex_C} (hi1 : 0 ≤ i.toInt) (hi2 : i.toInt + 5 ≤ (L : Int)) (hL : L ≤ 2560) (hk : ab_hk ab_hd cs) (hR : rel_R cs) : ex_go (ec_xt ++ [(L, xs)]) bx_L cL_law (some .boolean) (law_I i) law_Q 60 740 [some (.ref 1003), some (.ref 0), some (.ref 76), some (.int i)] [] cs := by
  refine go_wp rfl (wq_aload_n dL_law_740 rfl rfl ?_)
  refine go_wp rfl (wq_aload_n dL_law_741 rfl rfl ?_)
  refine go_wp rfl (wq_iload_n dL_law_742 rfl rfl ?_)
  refine go_wp rfl (wq_iconst (v := 1) dL_law_743 (by decide) rfl ?_)
  refine go_wp rfl (wq_iadd (v := i + 1) dL_law_744 rfl rfl ?_)
  refine go_wp rfl (wq_ialoadX (j := 3) (v := xs (i + 1).toNatClampNeg) dL_law_745 rfl rfl (ix_k hi1 hi2 hL (by decide)) rfl rfl ?_)
  refine go_wp rfl (wq_aload_n dL_law_746 rfl rfl ?_)
  refine go_wp rfl (wq_iload_n dL_law_747 rfl rfl ?_)
  refine go_wp rfl (wq_iconst (v := 2) dL_law_748 (by decide) rfl ?_)
  refine go_wp rfl (wq_iadd (v := i + 2) dL_law_749 rfl rfl ?_)
  refine go_wp rfl (wq_ialoadX (j := 3) (v := xs (i + 2).toNatClampNeg) dL_law_750 rfl rfl (ix_k hi1 hi2 hL (by decide)) rfl rfl ?_)
  refine go_wp rfl (wq_aload_n dL_law_751 rfl rfl ?_)
  refine go_wp rfl (wq_iload_n dL_law_752 rfl rfl ?_)
  refine go_wp rfl (wq_iconst (v := 3) dL_law_753 (by decide) rfl ?_)
  refine go_wp rfl (wq_iadd (v := i + 3) dL_law_754 rfl rfl ?_)
  refine go_wp rfl (wq_ialoadX (j := 3) (v := xs (i + 3).toNatClampNeg) dL_law_755 rfl rfl (ix_k hi1 hi2 hL (by decide)) rfl rfl ?_)
  obtain ⟨fs1, ho1, -⟩ := hk.obj (a := 0) (ci := 9) rfl
  refine go_wp rfl (wq_virtual (q := 4) (ci := 9) (a := 0) (av := [.ref 0, .int (xs (i + 1).toNatClampNeg), .int (xs (i + 2).toNatClampNeg), .int (xs (i + 3).toNatClampNeg)]) (r := []) dL_law_756 rfl (Nat.le_of_ble_eq_true rfl) rfl rfl rfl (Nat.le_of_ble_eq_true rfl) ho1 rfl (lw_call rfl pr_3 hk (fun r1 cs1 hp1 => ?_)))
  obtain ⟨⟨x1, e1⟩, hk1, hf1⟩ := po_int hp1 rfl
  subst e1
  refine ret_int ?_
  refine go_wp rfl (wq_pop dL_law_759 rfl rfl ?_)
  refine go_wp rfl (wq_aload_n dL_law_760 rfl rfl ?_)
  refine go_wp rfl (wq_aload_n dL_law_761 rfl rfl ?_)
  refine go_wp rfl (wq_iload_n dL_law_762 rfl rfl ?_)
  refine go_wp rfl (wq_iconst (v := 1) dL_law_763 (by decide) rfl ?_)
  refine go_wp rfl (wq_iadd (v := i + 1) dL_law_764 rfl rfl ?_)
  refine go_wp rfl (wq_ialoadX (j := 3) (v := xs (i + 1).toNatClampNeg) dL_law_765 rfl rfl (ix_k hi1 hi2 hL (by decide)) rfl rfl ?_)
  refine go_wp rfl (wq_aload_n dL_law_766 rfl rfl ?_)
  refine go_wp rfl (wq_iload_n dL_law_767 rfl rfl ?_)
  refine go_wp rfl (wq_iconst (v := 2) dL_law_768 (by decide) rfl ?_)
  refine go_wp rfl (wq_iadd (v := i + 2) dL_law_769 rfl rfl ?_)
  refine go_wp rfl (wq_ialoadX (j := 3) (v := xs (i + 2).toNatClampNeg) dL_law_770 rfl rfl (ix_k hi1 hi2 hL (by decide)) rfl rfl ?_)
  refine go_wp rfl (wq_aload_n dL_law_771 rfl rfl ?_)
  refine go_wp rfl (wq_iload_n dL_law_772 rfl rfl ?_)
  refine go_wp rfl (wq_iconst (v := 3) dL_law_773 (by decide) rfl ?_)
  refine go_wp rfl (wq_iadd (v := i + 3) dL_law_774 rfl rfl ?_)
  refine go_wp rfl (wq_ialoadX (j := 3) (v := xs (i + 3).toNatClampNeg) dL_law_775 rfl rfl (ix_k hi1 hi2 hL (by decide)) rfl rfl ?_)
  obtain ⟨fs2, ho2, -⟩ := hk1.obj (a := 76) (ci := 10) rfl
  refine go_wp rfl (wq_virtual (q := 4) (ci := 10) (a := 76) (av := [.ref 76, .int (xs (i + 1).toNatClampNeg), .int (xs (i + 2).toNatClampNeg), .int (xs (i + 3).toNatClampNeg)]) (r := []) dL_law_776 rfl (Nat.le_of_ble_eq_true rfl) rfl rfl rfl (Nat.le_of_ble_eq_true rfl) ho2 rfl (lw_call rfl pr_3 hk1 (fun r2 cs2 hp2 => ?_)))
  obtain ⟨⟨x2, e2⟩, hk2, hf2⟩ := po_int hp2 rfl
  subst e2
  refine ret_int ?_
  refine go_wp rfl (wq_pop dL_law_779 rfl rfl ?_)
  refine go_wp rfl (wq_goto (t := 1540) dL_law_780 (by decide) ?_)
  refine go_wp rfl (wq_iinc (v := i + Int32.ofInt 5) (lv' := [some (.ref 1003), some (.ref 0), some (.ref 76), some (.int (i + Int32.ofInt 5))]) dL_law_1540 rfl ⟨Nat.le_of_ble_eq_true rfl, rfl⟩ rfl rfl rfl ?_)
  refine go_wp rfl (wq_goto (t := 18) dL_law_1543 (by decide) ?_)
  exact go_cut rfl ⟨rfl, rfl, hk2, rel_keep hf1 hf2 rfl rfl hR⟩
set_option maxRecDepth 100000 in
set_option maxHeartbeats 40000000 in
theorem case_17 {xs : Nat → Int32} {L : Nat} {i : Int32} {cs : ex_C} (hi1 : 0 ≤ i.toInt) (hi2 : i.toInt + 5 ≤ (L : Int)) (hL : L ≤ 2560) (hk : ab_hk ab_hd cs) (hR : rel_R cs) : ex_go (ec_xt ++ [(L, xs)]) bx_L cL_law (some .boolean) (law_I i) law_Q 60 783 [some (.ref 1003), some (.ref 0), some (.ref 76), some (.int i)] [] cs := by
  refine go_wp rfl (wq_aload_n dL_law_783 rfl rfl ?_)
  refine go_wp rfl (wq_aload_n dL_law_784 rfl rfl ?_)
  refine go_wp rfl (wq_iload_n dL_law_785 rfl rfl ?_)
  refine go_wp rfl (wq_iconst (v := 1) dL_law_786 (by decide) rfl ?_)
  refine go_wp rfl (wq_iadd (v := i + 1) dL_law_787 rfl rfl ?_)
  refine go_wp rfl (wq_ialoadX (j := 3) (v := xs (i + 1).toNatClampNeg) dL_law_788 rfl rfl (ix_k hi1 hi2 hL (by decide)) rfl rfl ?_)
  refine go_wp rfl (wq_aload_n dL_law_789 rfl rfl ?_)
  refine go_wp rfl (wq_iload_n dL_law_790 rfl rfl ?_)
  refine go_wp rfl (wq_iconst (v := 2) dL_law_791 (by decide) rfl ?_)
  refine go_wp rfl (wq_iadd (v := i + 2) dL_law_792 rfl rfl ?_)
  refine go_wp rfl (wq_ialoadX (j := 3) (v := xs (i + 2).toNatClampNeg) dL_law_793 rfl rfl (ix_k hi1 hi2 hL (by decide)) rfl rfl ?_)
  obtain ⟨fs1, ho1, -⟩ := hk.obj (a := 0) (ci := 9) rfl
  refine go_wp rfl (wq_virtual (q := 3) (ci := 9) (a := 0) (av := [.ref 0, .int (xs (i + 1).toNatClampNeg), .int (xs (i + 2).toNatClampNeg)]) (r := []) dL_law_794 rfl (Nat.le_of_ble_eq_true rfl) rfl rfl rfl (Nat.le_of_ble_eq_true rfl) ho1 rfl (lw_call rfl pr_2 hk (fun r1 cs1 hp1 => ?_)))
  obtain ⟨⟨x1, e1⟩, hk1, hf1⟩ := po_int hp1 rfl
  subst e1
  refine ret_int ?_
  refine go_wp rfl (wq_pop dL_law_797 rfl rfl ?_)
  refine go_wp rfl (wq_aload_n dL_law_798 rfl rfl ?_)
  refine go_wp rfl (wq_aload_n dL_law_799 rfl rfl ?_)
  refine go_wp rfl (wq_iload_n dL_law_800 rfl rfl ?_)
  refine go_wp rfl (wq_iconst (v := 1) dL_law_801 (by decide) rfl ?_)
  refine go_wp rfl (wq_iadd (v := i + 1) dL_law_802 rfl rfl ?_)
  refine go_wp rfl (wq_ialoadX (j := 3) (v := xs (i + 1).toNatClampNeg) dL_law_803 rfl rfl (ix_k hi1 hi2 hL (by decide)) rfl rfl ?_)
  refine go_wp rfl (wq_aload_n dL_law_804 rfl rfl ?_)
  refine go_wp rfl (wq_iload_n dL_law_805 rfl rfl ?_)
  refine go_wp rfl (wq_iconst (v := 2) dL_law_806 (by decide) rfl ?_)
  refine go_wp rfl (wq_iadd (v := i + 2) dL_law_807 rfl rfl ?_)
  refine go_wp rfl (wq_ialoadX (j := 3) (v := xs (i + 2).toNatClampNeg) dL_law_808 rfl rfl (ix_k hi1 hi2 hL (by decide)) rfl rfl ?_)
  obtain ⟨fs2, ho2, -⟩ := hk1.obj (a := 76) (ci := 10) rfl
  refine go_wp rfl (wq_virtual (q := 3) (ci := 10) (a := 76) (av := [.ref 76, .int (xs (i + 1).toNatClampNeg), .int (xs (i + 2).toNatClampNeg)]) (r := []) dL_law_809 rfl (Nat.le_of_ble_eq_true rfl) rfl rfl rfl (Nat.le_of_ble_eq_true rfl) ho2 rfl (lw_call rfl pr_2 hk1 (fun r2 cs2 hp2 => ?_)))
  obtain ⟨⟨x2, e2⟩, hk2, hf2⟩ := po_int hp2 rfl
  subst e2
  refine ret_int ?_
  refine go_wp rfl (wq_pop dL_law_812 rfl rfl ?_)
  refine go_wp rfl (wq_goto (t := 1540) dL_law_813 (by decide) ?_)
  refine go_wp rfl (wq_iinc (v := i + Int32.ofInt 5) (lv' := [some (.ref 1003), some (.ref 0), some (.ref 76), some (.int (i + Int32.ofInt 5))]) dL_law_1540 rfl ⟨Nat.le_of_ble_eq_true rfl, rfl⟩ rfl rfl rfl ?_)
  refine go_wp rfl (wq_goto (t := 18) dL_law_1543 (by decide) ?_)
  exact go_cut rfl ⟨rfl, rfl, hk2, rel_keep hf1 hf2 rfl rfl hR⟩
set_option maxRecDepth 100000 in
set_option maxHeartbeats 40000000 in
theorem case_18 {xs : Nat → Int32} {L : Nat} {i : Int32} {cs : ex_C} (hi1 : 0 ≤ i.toInt) (hi2 : i.toInt + 5 ≤ (L : Int)) (hL : L ≤ 2560) (hk : ab_hk ab_hd cs) (hR : rel_R cs) : ex_go (ec_xt ++ [(L, xs)]) bx_L cL_law (some .boolean) (law_I i) law_Q 60 816 [some (.ref 1003), some (.ref 0), some (.ref 76), some (.int i)] [] cs := by
  refine go_wp rfl (wq_aload_n dL_law_816 rfl rfl ?_)
  refine go_wp rfl (wq_aload_n dL_law_817 rfl rfl ?_)
  refine go_wp rfl (wq_iload_n dL_law_818 rfl rfl ?_)
  refine go_wp rfl (wq_iconst (v := 1) dL_law_819 (by decide) rfl ?_)
  refine go_wp rfl (wq_iadd (v := i + 1) dL_law_820 rfl rfl ?_)
  refine go_wp rfl (wq_ialoadX (j := 3) (v := xs (i + 1).toNatClampNeg) dL_law_821 rfl rfl (ix_k hi1 hi2 hL (by decide)) rfl rfl ?_)
  refine go_wp rfl (wq_aload_n dL_law_822 rfl rfl ?_)
  refine go_wp rfl (wq_iload_n dL_law_823 rfl rfl ?_)
  refine go_wp rfl (wq_iconst (v := 2) dL_law_824 (by decide) rfl ?_)
  refine go_wp rfl (wq_iadd (v := i + 2) dL_law_825 rfl rfl ?_)
  refine go_wp rfl (wq_ialoadX (j := 3) (v := xs (i + 2).toNatClampNeg) dL_law_826 rfl rfl (ix_k hi1 hi2 hL (by decide)) rfl rfl ?_)
  obtain ⟨fs1, ho1, -⟩ := hk.obj (a := 0) (ci := 9) rfl
  refine go_wp rfl (wq_virtual (q := 3) (ci := 9) (a := 0) (av := [.ref 0, .int (xs (i + 1).toNatClampNeg), .int (xs (i + 2).toNatClampNeg)]) (r := []) dL_law_827 rfl (Nat.le_of_ble_eq_true rfl) rfl rfl rfl (Nat.le_of_ble_eq_true rfl) ho1 rfl (lw_call rfl pr_2 hk (fun r1 cs1 hp1 => ?_)))
  obtain ⟨⟨x1, e1⟩, hk1, hf1⟩ := po_int hp1 rfl
  subst e1
  refine ret_int ?_
  refine go_wp rfl (wq_pop dL_law_830 rfl rfl ?_)
  refine go_wp rfl (wq_aload_n dL_law_831 rfl rfl ?_)
  refine go_wp rfl (wq_aload_n dL_law_832 rfl rfl ?_)
  refine go_wp rfl (wq_iload_n dL_law_833 rfl rfl ?_)
  refine go_wp rfl (wq_iconst (v := 1) dL_law_834 (by decide) rfl ?_)
  refine go_wp rfl (wq_iadd (v := i + 1) dL_law_835 rfl rfl ?_)
  refine go_wp rfl (wq_ialoadX (j := 3) (v := xs (i + 1).toNatClampNeg) dL_law_836 rfl rfl (ix_k hi1 hi2 hL (by decide)) rfl rfl ?_)
  refine go_wp rfl (wq_aload_n dL_law_837 rfl rfl ?_)
  refine go_wp rfl (wq_iload_n dL_law_838 rfl rfl ?_)
  refine go_wp rfl (wq_iconst (v := 2) dL_law_839 (by decide) rfl ?_)
  refine go_wp rfl (wq_iadd (v := i + 2) dL_law_840 rfl rfl ?_)
  refine go_wp rfl (wq_ialoadX (j := 3) (v := xs (i + 2).toNatClampNeg) dL_law_841 rfl rfl (ix_k hi1 hi2 hL (by decide)) rfl rfl ?_)
  obtain ⟨fs2, ho2, -⟩ := hk1.obj (a := 76) (ci := 10) rfl
  refine go_wp rfl (wq_virtual (q := 3) (ci := 10) (a := 76) (av := [.ref 76, .int (xs (i + 1).toNatClampNeg), .int (xs (i + 2).toNatClampNeg)]) (r := []) dL_law_842 rfl (Nat.le_of_ble_eq_true rfl) rfl rfl rfl (Nat.le_of_ble_eq_true rfl) ho2 rfl (lw_call rfl pr_2 hk1 (fun r2 cs2 hp2 => ?_)))
  obtain ⟨⟨x2, e2⟩, hk2, hf2⟩ := po_int hp2 rfl
  subst e2
  refine ret_int ?_
  refine go_wp rfl (wq_pop dL_law_845 rfl rfl ?_)
  refine go_wp rfl (wq_goto (t := 1540) dL_law_846 (by decide) ?_)
  refine go_wp rfl (wq_iinc (v := i + Int32.ofInt 5) (lv' := [some (.ref 1003), some (.ref 0), some (.ref 76), some (.int (i + Int32.ofInt 5))]) dL_law_1540 rfl ⟨Nat.le_of_ble_eq_true rfl, rfl⟩ rfl rfl rfl ?_)
  refine go_wp rfl (wq_goto (t := 18) dL_law_1543 (by decide) ?_)
  exact go_cut rfl ⟨rfl, rfl, hk2, rel_keep hf1 hf2 rfl rfl hR⟩
set_option maxRecDepth 100000 in
set_option maxHeartbeats 40000000 in
theorem case_19 {xs : Nat → Int32} {L : Nat} {i : Int32} {cs : ex_C} (hi1 : 0 ≤ i.toInt) (hi2 : i.toInt + 5 ≤ (L : Int)) (hL : L ≤ 2560) (hk : ab_hk ab_hd cs) (hR : rel_R cs) : ex_go (ec_xt ++ [(L, xs)]) bx_L cL_law (some .boolean) (law_I i) law_Q 60 849 [some (.ref 1003), some (.ref 0), some (.ref 76), some (.int i)] [] cs := by
  refine go_wp rfl (wq_aload_n dL_law_849 rfl rfl ?_)
  refine go_wp rfl (wq_aload_n dL_law_850 rfl rfl ?_)
  refine go_wp rfl (wq_iload_n dL_law_851 rfl rfl ?_)
  refine go_wp rfl (wq_iconst (v := 1) dL_law_852 (by decide) rfl ?_)
  refine go_wp rfl (wq_iadd (v := i + 1) dL_law_853 rfl rfl ?_)
  refine go_wp rfl (wq_ialoadX (j := 3) (v := xs (i + 1).toNatClampNeg) dL_law_854 rfl rfl (ix_k hi1 hi2 hL (by decide)) rfl rfl ?_)
  obtain ⟨fs1, ho1, -⟩ := hk.obj (a := 0) (ci := 9) rfl
  refine go_wp rfl (wq_virtual (q := 2) (ci := 9) (a := 0) (av := [.ref 0, .int (xs (i + 1).toNatClampNeg)]) (r := []) dL_law_855 rfl (Nat.le_of_ble_eq_true rfl) rfl rfl rfl (Nat.le_of_ble_eq_true rfl) ho1 rfl (lw_call rfl pr_1 hk (fun r1 cs1 hp1 => ?_)))
  obtain ⟨⟨x1, e1⟩, hk1, hf1⟩ := po_int hp1 rfl
  subst e1
  refine ret_int ?_
  refine go_wp rfl (wq_pop dL_law_858 rfl rfl ?_)
  refine go_wp rfl (wq_aload_n dL_law_859 rfl rfl ?_)
  refine go_wp rfl (wq_aload_n dL_law_860 rfl rfl ?_)
  refine go_wp rfl (wq_iload_n dL_law_861 rfl rfl ?_)
  refine go_wp rfl (wq_iconst (v := 1) dL_law_862 (by decide) rfl ?_)
  refine go_wp rfl (wq_iadd (v := i + 1) dL_law_863 rfl rfl ?_)
  refine go_wp rfl (wq_ialoadX (j := 3) (v := xs (i + 1).toNatClampNeg) dL_law_864 rfl rfl (ix_k hi1 hi2 hL (by decide)) rfl rfl ?_)
  obtain ⟨fs2, ho2, -⟩ := hk1.obj (a := 76) (ci := 10) rfl
  refine go_wp rfl (wq_virtual (q := 2) (ci := 10) (a := 76) (av := [.ref 76, .int (xs (i + 1).toNatClampNeg)]) (r := []) dL_law_865 rfl (Nat.le_of_ble_eq_true rfl) rfl rfl rfl (Nat.le_of_ble_eq_true rfl) ho2 rfl (lw_call rfl pr_1 hk1 (fun r2 cs2 hp2 => ?_)))
  obtain ⟨⟨x2, e2⟩, hk2, hf2⟩ := po_int hp2 rfl
  subst e2
  refine ret_int ?_
  refine go_wp rfl (wq_pop dL_law_868 rfl rfl ?_)
  refine go_wp rfl (wq_goto (t := 1540) dL_law_869 (by decide) ?_)
  refine go_wp rfl (wq_iinc (v := i + Int32.ofInt 5) (lv' := [some (.ref 1003), some (.ref 0), some (.ref 76), some (.int (i + Int32.ofInt 5))]) dL_law_1540 rfl ⟨Nat.le_of_ble_eq_true rfl, rfl⟩ rfl rfl rfl ?_)
  refine go_wp rfl (wq_goto (t := 18) dL_law_1543 (by decide) ?_)
  exact go_cut rfl ⟨rfl, rfl, hk2, rel_keep hf1 hf2 rfl rfl hR⟩
set_option maxRecDepth 100000 in
set_option maxHeartbeats 40000000 in
theorem case_20 {xs : Nat → Int32} {L : Nat} {i : Int32} {cs : ex_C} (hi1 : 0 ≤ i.toInt) (hi2 : i.toInt + 5 ≤ (L : Int)) (hL : L ≤ 2560) (hk : ab_hk ab_hd cs) (hR : rel_R cs) : ex_go (ec_xt ++ [(L, xs)]) bx_L cL_law (some .boolean) (law_I i) law_Q 60 872 [some (.ref 1003), some (.ref 0), some (.ref 76), some (.int i)] [] cs := by
  refine go_wp rfl (wq_aload_n dL_law_872 rfl rfl ?_)
  refine go_wp rfl (wq_aload_n dL_law_873 rfl rfl ?_)
  refine go_wp rfl (wq_iload_n dL_law_874 rfl rfl ?_)
  refine go_wp rfl (wq_iconst (v := 1) dL_law_875 (by decide) rfl ?_)
  refine go_wp rfl (wq_iadd (v := i + 1) dL_law_876 rfl rfl ?_)
  refine go_wp rfl (wq_ialoadX (j := 3) (v := xs (i + 1).toNatClampNeg) dL_law_877 rfl rfl (ix_k hi1 hi2 hL (by decide)) rfl rfl ?_)
  refine go_wp rfl (wq_aload_n dL_law_878 rfl rfl ?_)
  refine go_wp rfl (wq_iload_n dL_law_879 rfl rfl ?_)
  refine go_wp rfl (wq_iconst (v := 2) dL_law_880 (by decide) rfl ?_)
  refine go_wp rfl (wq_iadd (v := i + 2) dL_law_881 rfl rfl ?_)
  refine go_wp rfl (wq_ialoadX (j := 3) (v := xs (i + 2).toNatClampNeg) dL_law_882 rfl rfl (ix_k hi1 hi2 hL (by decide)) rfl rfl ?_)
  refine go_wp rfl (wq_aload_n dL_law_883 rfl rfl ?_)
  refine go_wp rfl (wq_iload_n dL_law_884 rfl rfl ?_)
  refine go_wp rfl (wq_iconst (v := 3) dL_law_885 (by decide) rfl ?_)
  refine go_wp rfl (wq_iadd (v := i + 3) dL_law_886 rfl rfl ?_)
  refine go_wp rfl (wq_ialoadX (j := 3) (v := xs (i + 3).toNatClampNeg) dL_law_887 rfl rfl (ix_k hi1 hi2 hL (by decide)) rfl rfl ?_)
  obtain ⟨fs1, ho1, -⟩ := hk.obj (a := 0) (ci := 9) rfl
  refine go_wp rfl (wq_virtual (q := 4) (ci := 9) (a := 0) (av := [.ref 0, .int (xs (i + 1).toNatClampNeg), .int (xs (i + 2).toNatClampNeg), .int (xs (i + 3).toNatClampNeg)]) (r := []) dL_law_888 rfl (Nat.le_of_ble_eq_true rfl) rfl rfl rfl (Nat.le_of_ble_eq_true rfl) ho1 rfl (lw_call rfl pr_3 hk (fun r1 cs1 hp1 => ?_)))
  obtain ⟨⟨x1, e1⟩, hk1, hf1⟩ := po_int hp1 rfl
  subst e1
  refine ret_int ?_
  refine go_wp rfl (wq_pop dL_law_891 rfl rfl ?_)
  refine go_wp rfl (wq_aload_n dL_law_892 rfl rfl ?_)
  refine go_wp rfl (wq_aload_n dL_law_893 rfl rfl ?_)
  refine go_wp rfl (wq_iload_n dL_law_894 rfl rfl ?_)
  refine go_wp rfl (wq_iconst (v := 1) dL_law_895 (by decide) rfl ?_)
  refine go_wp rfl (wq_iadd (v := i + 1) dL_law_896 rfl rfl ?_)
  refine go_wp rfl (wq_ialoadX (j := 3) (v := xs (i + 1).toNatClampNeg) dL_law_897 rfl rfl (ix_k hi1 hi2 hL (by decide)) rfl rfl ?_)
  refine go_wp rfl (wq_aload_n dL_law_898 rfl rfl ?_)
  refine go_wp rfl (wq_iload_n dL_law_899 rfl rfl ?_)
  refine go_wp rfl (wq_iconst (v := 2) dL_law_900 (by decide) rfl ?_)
  refine go_wp rfl (wq_iadd (v := i + 2) dL_law_901 rfl rfl ?_)
  refine go_wp rfl (wq_ialoadX (j := 3) (v := xs (i + 2).toNatClampNeg) dL_law_902 rfl rfl (ix_k hi1 hi2 hL (by decide)) rfl rfl ?_)
  refine go_wp rfl (wq_aload_n dL_law_903 rfl rfl ?_)
  refine go_wp rfl (wq_iload_n dL_law_904 rfl rfl ?_)
  refine go_wp rfl (wq_iconst (v := 3) dL_law_905 (by decide) rfl ?_)
  refine go_wp rfl (wq_iadd (v := i + 3) dL_law_906 rfl rfl ?_)
  refine go_wp rfl (wq_ialoadX (j := 3) (v := xs (i + 3).toNatClampNeg) dL_law_907 rfl rfl (ix_k hi1 hi2 hL (by decide)) rfl rfl ?_)
  obtain ⟨fs2, ho2, -⟩ := hk1.obj (a := 76) (ci := 10) rfl
  refine go_wp rfl (wq_virtual (q := 4) (ci := 10) (a := 76) (av := [.ref 76, .int (xs (i + 1).toNatClampNeg), .int (xs (i + 2).toNatClampNeg), .int (xs (i + 3).toNatClampNeg)]) (r := []) dL_law_908 rfl (Nat.le_of_ble_eq_true rfl) rfl rfl rfl (Nat.le_of_ble_eq_true rfl) ho2 rfl (lw_call rfl pr_3 hk1 (fun r2 cs2 hp2 => ?_)))
  obtain ⟨⟨x2, e2⟩, hk2, hf2⟩ := po_int hp2 rfl
  subst e2
  refine ret_int ?_
  refine go_wp rfl (wq_pop dL_law_911 rfl rfl ?_)
  refine go_wp rfl (wq_goto (t := 1540) dL_law_912 (by decide) ?_)
  refine go_wp rfl (wq_iinc (v := i + Int32.ofInt 5) (lv' := [some (.ref 1003), some (.ref 0), some (.ref 76), some (.int (i + Int32.ofInt 5))]) dL_law_1540 rfl ⟨Nat.le_of_ble_eq_true rfl, rfl⟩ rfl rfl rfl ?_)
  refine go_wp rfl (wq_goto (t := 18) dL_law_1543 (by decide) ?_)
  exact go_cut rfl ⟨rfl, rfl, hk2, rel_keep hf1 hf2 rfl rfl hR⟩
set_option maxRecDepth 100000 in
set_option maxHeartbeats 40000000 in
theorem case_21 {xs : Nat → Int32} {L : Nat} {i : Int32} {cs : ex_C} (hi1 : 0 ≤ i.toInt) (hi2 : i.toInt + 5 ≤ (L : Int)) (hL : L ≤ 2560) (hk : ab_hk ab_hd cs) (hR : rel_R cs) : ex_go (ec_xt ++ [(L, xs)]) bx_L cL_law (some .boolean) (law_I i) law_Q 60 915 [some (.ref 1003), some (.ref 0), some (.ref 76), some (.int i)] [] cs := by
  refine go_wp rfl (wq_aload_n dL_law_915 rfl rfl ?_)
  refine go_wp rfl (wq_aload_n dL_law_916 rfl rfl ?_)
  refine go_wp rfl (wq_iload_n dL_law_917 rfl rfl ?_)
  refine go_wp rfl (wq_iconst (v := 1) dL_law_918 (by decide) rfl ?_)
  refine go_wp rfl (wq_iadd (v := i + 1) dL_law_919 rfl rfl ?_)
  refine go_wp rfl (wq_ialoadX (j := 3) (v := xs (i + 1).toNatClampNeg) dL_law_920 rfl rfl (ix_k hi1 hi2 hL (by decide)) rfl rfl ?_)
  obtain ⟨fs1, ho1, -⟩ := hk.obj (a := 0) (ci := 9) rfl
  refine go_wp rfl (wq_virtual (q := 2) (ci := 9) (a := 0) (av := [.ref 0, .int (xs (i + 1).toNatClampNeg)]) (r := []) dL_law_921 rfl (Nat.le_of_ble_eq_true rfl) rfl rfl rfl (Nat.le_of_ble_eq_true rfl) ho1 rfl (lw_call rfl pr_1 hk (fun r1 cs1 hp1 => ?_)))
  obtain ⟨⟨x1, e1⟩, hk1, hf1⟩ := po_int hp1 rfl
  subst e1
  refine ret_int ?_
  refine go_wp rfl (wq_pop dL_law_924 rfl rfl ?_)
  refine go_wp rfl (wq_aload_n dL_law_925 rfl rfl ?_)
  refine go_wp rfl (wq_aload_n dL_law_926 rfl rfl ?_)
  refine go_wp rfl (wq_iload_n dL_law_927 rfl rfl ?_)
  refine go_wp rfl (wq_iconst (v := 1) dL_law_928 (by decide) rfl ?_)
  refine go_wp rfl (wq_iadd (v := i + 1) dL_law_929 rfl rfl ?_)
  refine go_wp rfl (wq_ialoadX (j := 3) (v := xs (i + 1).toNatClampNeg) dL_law_930 rfl rfl (ix_k hi1 hi2 hL (by decide)) rfl rfl ?_)
  obtain ⟨fs2, ho2, -⟩ := hk1.obj (a := 76) (ci := 10) rfl
  refine go_wp rfl (wq_virtual (q := 2) (ci := 10) (a := 76) (av := [.ref 76, .int (xs (i + 1).toNatClampNeg)]) (r := []) dL_law_931 rfl (Nat.le_of_ble_eq_true rfl) rfl rfl rfl (Nat.le_of_ble_eq_true rfl) ho2 rfl (lw_call rfl pr_1 hk1 (fun r2 cs2 hp2 => ?_)))
  obtain ⟨⟨x2, e2⟩, hk2, hf2⟩ := po_int hp2 rfl
  subst e2
  refine ret_int ?_
  refine go_wp rfl (wq_pop dL_law_934 rfl rfl ?_)
  refine go_wp rfl (wq_goto (t := 1540) dL_law_935 (by decide) ?_)
  refine go_wp rfl (wq_iinc (v := i + Int32.ofInt 5) (lv' := [some (.ref 1003), some (.ref 0), some (.ref 76), some (.int (i + Int32.ofInt 5))]) dL_law_1540 rfl ⟨Nat.le_of_ble_eq_true rfl, rfl⟩ rfl rfl rfl ?_)
  refine go_wp rfl (wq_goto (t := 18) dL_law_1543 (by decide) ?_)
  exact go_cut rfl ⟨rfl, rfl, hk2, rel_keep hf1 hf2 rfl rfl hR⟩
set_option maxRecDepth 100000 in
set_option maxHeartbeats 40000000 in
theorem case_22 {xs : Nat → Int32} {L : Nat} {i : Int32} {cs : ex_C} (hi1 : 0 ≤ i.toInt) (hi2 : i.toInt + 5 ≤ (L : Int)) (hL : L ≤ 2560) (hk : ab_hk ab_hd cs) (hR : rel_R cs) : ex_go (ec_xt ++ [(L, xs)]) bx_L cL_law (some .boolean) (law_I i) law_Q 60 938 [some (.ref 1003), some (.ref 0), some (.ref 76), some (.int i)] [] cs := by
  refine go_wp rfl (wq_aload_n dL_law_938 rfl rfl ?_)
  refine go_wp rfl (wq_aload_n dL_law_939 rfl rfl ?_)
  refine go_wp rfl (wq_iload_n dL_law_940 rfl rfl ?_)
  refine go_wp rfl (wq_iconst (v := 1) dL_law_941 (by decide) rfl ?_)
  refine go_wp rfl (wq_iadd (v := i + 1) dL_law_942 rfl rfl ?_)
  refine go_wp rfl (wq_ialoadX (j := 3) (v := xs (i + 1).toNatClampNeg) dL_law_943 rfl rfl (ix_k hi1 hi2 hL (by decide)) rfl rfl ?_)
  obtain ⟨fs1, ho1, -⟩ := hk.obj (a := 0) (ci := 9) rfl
  refine go_wp rfl (wq_virtual (q := 2) (ci := 9) (a := 0) (av := [.ref 0, .int (xs (i + 1).toNatClampNeg)]) (r := []) dL_law_944 rfl (Nat.le_of_ble_eq_true rfl) rfl rfl rfl (Nat.le_of_ble_eq_true rfl) ho1 rfl (lw_call rfl pr_1 hk (fun r1 cs1 hp1 => ?_)))
  obtain ⟨⟨x1, e1⟩, hk1, hf1⟩ := po_int hp1 rfl
  subst e1
  refine ret_int ?_
  refine go_wp rfl (wq_pop dL_law_947 rfl rfl ?_)
  refine go_wp rfl (wq_aload_n dL_law_948 rfl rfl ?_)
  refine go_wp rfl (wq_aload_n dL_law_949 rfl rfl ?_)
  refine go_wp rfl (wq_iload_n dL_law_950 rfl rfl ?_)
  refine go_wp rfl (wq_iconst (v := 1) dL_law_951 (by decide) rfl ?_)
  refine go_wp rfl (wq_iadd (v := i + 1) dL_law_952 rfl rfl ?_)
  refine go_wp rfl (wq_ialoadX (j := 3) (v := xs (i + 1).toNatClampNeg) dL_law_953 rfl rfl (ix_k hi1 hi2 hL (by decide)) rfl rfl ?_)
  obtain ⟨fs2, ho2, -⟩ := hk1.obj (a := 76) (ci := 10) rfl
  refine go_wp rfl (wq_virtual (q := 2) (ci := 10) (a := 76) (av := [.ref 76, .int (xs (i + 1).toNatClampNeg)]) (r := []) dL_law_954 rfl (Nat.le_of_ble_eq_true rfl) rfl rfl rfl (Nat.le_of_ble_eq_true rfl) ho2 rfl (lw_call rfl pr_1 hk1 (fun r2 cs2 hp2 => ?_)))
  obtain ⟨⟨x2, e2⟩, hk2, hf2⟩ := po_int hp2 rfl
  subst e2
  refine ret_int ?_
  refine go_wp rfl (wq_pop dL_law_957 rfl rfl ?_)
  refine go_wp rfl (wq_goto (t := 1540) dL_law_958 (by decide) ?_)
  refine go_wp rfl (wq_iinc (v := i + Int32.ofInt 5) (lv' := [some (.ref 1003), some (.ref 0), some (.ref 76), some (.int (i + Int32.ofInt 5))]) dL_law_1540 rfl ⟨Nat.le_of_ble_eq_true rfl, rfl⟩ rfl rfl rfl ?_)
  refine go_wp rfl (wq_goto (t := 18) dL_law_1543 (by decide) ?_)
  exact go_cut rfl ⟨rfl, rfl, hk2, rel_keep hf1 hf2 rfl rfl hR⟩
set_option maxRecDepth 100000 in
set_option maxHeartbeats 40000000 in
theorem case_23 {xs : Nat → Int32} {L : Nat} {i : Int32} {cs : ex_C} (hi1 : 0 ≤ i.toInt) (hi2 : i.toInt + 5 ≤ (L : Int)) (hL : L ≤ 2560) (hk : ab_hk ab_hd cs) (hR : rel_R cs) : ex_go (ec_xt ++ [(L, xs)]) bx_L cL_law (some .boolean) (law_I i) law_Q 60 961 [some (.ref 1003), some (.ref 0), some (.ref 76), some (.int i)] [] cs := by
  refine go_wp rfl (wq_aload_n dL_law_961 rfl rfl ?_)
  refine go_wp rfl (wq_aload_n dL_law_962 rfl rfl ?_)
  refine go_wp rfl (wq_iload_n dL_law_963 rfl rfl ?_)
  refine go_wp rfl (wq_iconst (v := 1) dL_law_964 (by decide) rfl ?_)
  refine go_wp rfl (wq_iadd (v := i + 1) dL_law_965 rfl rfl ?_)
  refine go_wp rfl (wq_ialoadX (j := 3) (v := xs (i + 1).toNatClampNeg) dL_law_966 rfl rfl (ix_k hi1 hi2 hL (by decide)) rfl rfl ?_)
  obtain ⟨fs1, ho1, -⟩ := hk.obj (a := 0) (ci := 9) rfl
  refine go_wp rfl (wq_virtual (q := 2) (ci := 9) (a := 0) (av := [.ref 0, .int (xs (i + 1).toNatClampNeg)]) (r := []) dL_law_967 rfl (Nat.le_of_ble_eq_true rfl) rfl rfl rfl (Nat.le_of_ble_eq_true rfl) ho1 rfl (lw_call rfl pr_1 hk (fun r1 cs1 hp1 => ?_)))
  obtain ⟨⟨x1, e1⟩, hk1, hf1⟩ := po_int hp1 rfl
  subst e1
  refine ret_int ?_
  refine go_wp rfl (wq_pop dL_law_970 rfl rfl ?_)
  refine go_wp rfl (wq_aload_n dL_law_971 rfl rfl ?_)
  refine go_wp rfl (wq_aload_n dL_law_972 rfl rfl ?_)
  refine go_wp rfl (wq_iload_n dL_law_973 rfl rfl ?_)
  refine go_wp rfl (wq_iconst (v := 1) dL_law_974 (by decide) rfl ?_)
  refine go_wp rfl (wq_iadd (v := i + 1) dL_law_975 rfl rfl ?_)
  refine go_wp rfl (wq_ialoadX (j := 3) (v := xs (i + 1).toNatClampNeg) dL_law_976 rfl rfl (ix_k hi1 hi2 hL (by decide)) rfl rfl ?_)
  obtain ⟨fs2, ho2, -⟩ := hk1.obj (a := 76) (ci := 10) rfl
  refine go_wp rfl (wq_virtual (q := 2) (ci := 10) (a := 76) (av := [.ref 76, .int (xs (i + 1).toNatClampNeg)]) (r := []) dL_law_977 rfl (Nat.le_of_ble_eq_true rfl) rfl rfl rfl (Nat.le_of_ble_eq_true rfl) ho2 rfl (lw_call rfl pr_1 hk1 (fun r2 cs2 hp2 => ?_)))
  obtain ⟨⟨x2, e2⟩, hk2, hf2⟩ := po_int hp2 rfl
  subst e2
  refine ret_int ?_
  refine go_wp rfl (wq_pop dL_law_980 rfl rfl ?_)
  refine go_wp rfl (wq_goto (t := 1540) dL_law_981 (by decide) ?_)
  refine go_wp rfl (wq_iinc (v := i + Int32.ofInt 5) (lv' := [some (.ref 1003), some (.ref 0), some (.ref 76), some (.int (i + Int32.ofInt 5))]) dL_law_1540 rfl ⟨Nat.le_of_ble_eq_true rfl, rfl⟩ rfl rfl rfl ?_)
  refine go_wp rfl (wq_goto (t := 18) dL_law_1543 (by decide) ?_)
  exact go_cut rfl ⟨rfl, rfl, hk2, rel_keep hf1 hf2 rfl rfl hR⟩

theorem ins_0 : Cond.instantiable RX0 8 ∈ lw_tbl := List.mem_of_getElem? (i := 115) (by decide +kernel)
theorem ins_1 : Cond.instantiable RX1 6 ∈ lw_tbl := List.mem_of_getElem? (i := 243) (by decide +kernel)
theorem ins_2 : Cond.instantiable RX2 7 ∈ lw_tbl := List.mem_of_getElem? (i := 268) (by decide +kernel)
theorem ins_3 : Cond.instantiable RX3 7 ∈ lw_tbl := List.mem_of_getElem? (i := 155) (by decide +kernel)
theorem ins_4 : Cond.instantiable RX4 2 ∈ lw_tbl := List.mem_of_getElem? (i := 331) (by decide +kernel)
theorem ins_5 : Cond.instantiable RX5 10 ∈ lw_tbl := List.mem_of_getElem? (i := 345) (by decide +kernel)
theorem ins_6 : Cond.instantiable RX6 15 ∈ lw_tbl := List.mem_of_getElem? (i := 185) (by decide +kernel)
theorem ins_7 : Cond.instantiable RX7 5 ∈ lw_tbl := List.mem_of_getElem? (i := 81) (by decide +kernel)
theorem ins_8 : Cond.instantiable RX8 7 ∈ lw_tbl := List.mem_of_getElem? (i := 109) (by decide +kernel)
theorem ins_9 : Cond.instantiable RX9 10 ∈ lw_tbl := List.mem_of_getElem? (i := 73) (by decide +kernel)
theorem ins_10 : Cond.instantiable RX10 57 ∈ lw_tbl := List.mem_of_getElem? (i := 1100) (by decide +kernel)
theorem nw_all : ec_ns.all (fun q => decide (Cond.methodLinkNest q.1 q.2.1 q.2.2.1 q.2.2.2 ∈ lw_tbl)) = true := by decide +kernel
set_option maxHeartbeats 4000000 in
set_option maxRecDepth 100000 in
theorem st_kinds {s : State} {b : Nat} (hts : ∀ w ∈ lw_tbl, w.before #[Value.ref b] s = true) : ∃ (D : va_G) (ca : Nat → Nat), va_K D ec_cl (ex_tys ca) s := by
  obtain ⟨c0, i0, k0⟩ := u_known (C := RX0) (T := TX0) (N := 8) (n := 8) hts (fun w h => ec_sub w (ec_k0 w h)) (hts _ ins_0)
  obtain ⟨c1, i1, k1⟩ := u_known (C := RX1) (T := TX1) (N := 6) (n := 6) hts (fun w h => ec_sub w (ec_k1 w h)) (hts _ ins_1)
  obtain ⟨c2, i2, k2⟩ := u_known (C := RX2) (T := TX2) (N := 7) (n := 7) hts (fun w h => ec_sub w (ec_k2 w h)) (hts _ ins_2)
  obtain ⟨c3, i3, k3⟩ := u_known (C := RX3) (T := TX3) (N := 7) (n := 7) hts (fun w h => ec_sub w (ec_k3 w h)) (hts _ ins_3)
  obtain ⟨c4, i4, k4⟩ := u_known (C := RX4) (T := TX4) (N := 2) (n := 2) hts (fun w h => ec_sub w (ec_k4 w h)) (hts _ ins_4)
  obtain ⟨c5, i5, k5⟩ := u_known (C := RX5) (T := TX5) (N := 10) (n := 10) hts (fun w h => ec_sub w (ec_k5 w h)) (hts _ ins_5)
  obtain ⟨c6, i6, k6⟩ := u_known (C := RX6) (T := TX6) (N := 15) (n := 15) hts (fun w h => ec_sub w (ec_k6 w h)) (hts _ ins_6)
  obtain ⟨c7, i7, k7⟩ := u_known (C := RX7) (T := TX7) (N := 5) (n := 5) hts (fun w h => ec_sub w (ec_k7 w h)) (hts _ ins_7)
  obtain ⟨c8, i8, k8⟩ := u_known (C := RX8) (T := TX8) (N := 7) (n := 7) hts (fun w h => ec_sub w (ec_k8 w h)) (hts _ ins_8)
  obtain ⟨c9, i9, k9⟩ := u_known (C := RX9) (T := TX9) (N := 10) (n := 10) hts (fun w h => ec_sub w (ec_k9 w h)) (hts _ ins_9)
  obtain ⟨c10, i10, k10⟩ := u_known (C := RX10) (T := TX10) (N := 57) (n := 57) hts (fun w h => ec_sub w (ec_k10 w h)) (hts _ ins_10)
  obtain ⟨cI, kI, compI, hI1, hI2, hI3⟩ := Cond.arrayClass_spec (hts _ (ec_sub _ ec_arr.1))
  obtain ⟨cZ, kZ, compZ, hZ1, hZ2, hZ3⟩ := Cond.arrayClass_spec (hts _ (ec_sub _ ec_arr.2))
  refine ⟨(fun k => match k with
    | 0 => c0
    | 1 => c1
    | 2 => c2
    | 3 => c3
    | 4 => c4
    | 5 => c5
    | 6 => c6
    | 7 => c7
    | 8 => c8
    | 9 => c9
    | _ => c10, fun k => match k with
    | 0 => i0
    | 1 => i1
    | 2 => i2
    | 3 => i3
    | 4 => i4
    | 5 => i5
    | 6 => i6
    | 7 => i7
    | 8 => i8
    | 9 => i9
    | _ => i10), fun k => match k with
    | 0 => cI
    | _ => cZ, fun k q hq => ?_, fun k q hq => ?_⟩
  · match k, hq with
    | 0, hq => cases hq; exact k0
    | 1, hq => cases hq; exact k1
    | 2, hq => cases hq; exact k2
    | 3, hq => cases hq; exact k3
    | 4, hq => cases hq; exact k4
    | 5, hq => cases hq; exact k5
    | 6, hq => cases hq; exact k6
    | 7, hq => cases hq; exact k7
    | 8, hq => cases hq; exact k8
    | 9, hq => cases hq; exact k9
    | 10, hq => cases hq; exact k10
    | k + 11, hq => simp [ec_cl, vwCl] at hq
  · match k, hq with
    | 0, hq => cases hq; exact ⟨fun n z => ⟨fun k h => (by cases h), kI, hI2, compI, hI3⟩, hI1⟩
    | 1, hq => cases hq; exact ⟨fun n z => ⟨fun k h => (by cases h), kZ, hZ2, compZ, hZ3⟩, hZ1⟩
    | k + 2, hq => simp [ex_tys] at hq
set_option maxHeartbeats 4000000 in
theorem st_0 {s : State} {b : Nat} (hts : ∀ w ∈ lw_tbl, w.before #[Value.ref b] s = true) (hgv : (Jvm.Cond.and given_1 narrow_1).before #[Value.ref b] s = true) : ∃ t : Nat, (∀ n f, ec_xt[0]? = some (n, f) → va_T .int t n (fun i => .int (f i)) (fun q => s.heap.size ≤ q) s s.heap) ∧ va_Z "TinStation$Plant" "KIND_ABOVE" "[I" (.ref t) (fun q => s.heap.size ≤ q) s s.heap := by
  have hs := flat_of_before _ hgv
  have hA : ∀ a : Nat, a < s.heap.size → ¬ s.heap.size ≤ a := fun a h => Nat.not_le.mpr h
  have hlen : (Term.length (.static "TinStation$Plant" "KIND_ABOVE" "[I")).eval #[Value.ref b] s none [] s = some (.int (Int32.ofNat 6)) := va_eqt (hs (.eq (.length (.static "TinStation$Plant" "KIND_ABOVE" "[I")) (.int 6)) (by decide +kernel))
  have h0 : (Term.elem (.static "TinStation$Plant" "KIND_ABOVE" "[I") (.int (Int32.ofNat 0))).eval #[Value.ref b] s none [] s = some (.int (-1)) := va_eqt (hs (.eq (.elem (.static "TinStation$Plant" "KIND_ABOVE" "[I") (.int 0)) (.int (-1))) (by decide +kernel))
  have h1 : (Term.elem (.static "TinStation$Plant" "KIND_ABOVE" "[I") (.int (Int32.ofNat 1))).eval #[Value.ref b] s none [] s = some (.int (0)) := va_eqt (hs (.eq (.elem (.static "TinStation$Plant" "KIND_ABOVE" "[I") (.int 1)) (.int (0))) (by decide +kernel))
  have h2 : (Term.elem (.static "TinStation$Plant" "KIND_ABOVE" "[I") (.int (Int32.ofNat 2))).eval #[Value.ref b] s none [] s = some (.int (0)) := va_eqt (hs (.eq (.elem (.static "TinStation$Plant" "KIND_ABOVE" "[I") (.int 2)) (.int (0))) (by decide +kernel))
  have h3 : (Term.elem (.static "TinStation$Plant" "KIND_ABOVE" "[I") (.int (Int32.ofNat 3))).eval #[Value.ref b] s none [] s = some (.int (0)) := va_eqt (hs (.eq (.elem (.static "TinStation$Plant" "KIND_ABOVE" "[I") (.int 3)) (.int (0))) (by decide +kernel))
  have h4 : (Term.elem (.static "TinStation$Plant" "KIND_ABOVE" "[I") (.int (Int32.ofNat 4))).eval #[Value.ref b] s none [] s = some (.int (3)) := va_eqt (hs (.eq (.elem (.static "TinStation$Plant" "KIND_ABOVE" "[I") (.int 4)) (.int (3))) (by decide +kernel))
  have h5 : (Term.elem (.static "TinStation$Plant" "KIND_ABOVE" "[I") (.int (Int32.ofNat 5))).eval #[Value.ref b] s none [] s = some (.int (0)) := va_eqt (hs (.eq (.elem (.static "TinStation$Plant" "KIND_ABOVE" "[I") (.int 5)) (.int (0))) (by decide +kernel))
  obtain ⟨t, ht, hT⟩ := va_Tof (A := fun q => s.heap.size ≤ q) (tm := (.static "TinStation$Plant" "KIND_ABOVE" "[I")) (ty := .int) (N := 6) (f := fun i => .int ((ec_xt[0]?.getD (0, fun _ => 0)).2 i)) (by decide) (hs _ (by decide +kernel)) hlen (fun j hj => by
    rcases (show j = 0 ∨ j = 1 ∨ j = 2 ∨ j = 3 ∨ j = 4 ∨ j = 5 by omega) with rfl | rfl | rfl | rfl | rfl | rfl
    · exact h0
    · exact h1
    · exact h2
    · exact h3
    · exact h4
    · exact h5) hA
  refine ⟨t, fun n f hq => ?_, va_Zref (hts _ (List.mem_of_getElem? (i := 585) (by decide +kernel))) (hts _ (List.mem_of_getElem? (i := 63) (by decide +kernel))) ht hA⟩
  cases hq
  exact hT
set_option maxHeartbeats 4000000 in
theorem st_1 {s : State} {b : Nat} (hts : ∀ w ∈ lw_tbl, w.before #[Value.ref b] s = true) (hgv : (Jvm.Cond.and given_1 narrow_1).before #[Value.ref b] s = true) : ∃ t : Nat, (∀ n f, ec_xt[1]? = some (n, f) → va_T .int t n (fun i => .int (f i)) (fun q => s.heap.size ≤ q) s s.heap) ∧ va_Z "TinStation$Crew" "BREATH" "[I" (.ref t) (fun q => s.heap.size ≤ q) s s.heap := by
  have hs := flat_of_before _ hgv
  have hA : ∀ a : Nat, a < s.heap.size → ¬ s.heap.size ≤ a := fun a h => Nat.not_le.mpr h
  have hlen : (Term.length (.static "TinStation$Crew" "BREATH" "[I")).eval #[Value.ref b] s none [] s = some (.int (Int32.ofNat 3)) := va_eqt (hs (.eq (.length (.static "TinStation$Crew" "BREATH" "[I")) (.int 3)) (by decide +kernel))
  have h0 : (Term.elem (.static "TinStation$Crew" "BREATH" "[I") (.int (Int32.ofNat 0))).eval #[Value.ref b] s none [] s = some (.int (4)) := va_eqt (hs (.eq (.elem (.static "TinStation$Crew" "BREATH" "[I") (.int 0)) (.int (4))) (by decide +kernel))
  have h1 : (Term.elem (.static "TinStation$Crew" "BREATH" "[I") (.int (Int32.ofNat 1))).eval #[Value.ref b] s none [] s = some (.int (6)) := va_eqt (hs (.eq (.elem (.static "TinStation$Crew" "BREATH" "[I") (.int 1)) (.int (6))) (by decide +kernel))
  have h2 : (Term.elem (.static "TinStation$Crew" "BREATH" "[I") (.int (Int32.ofNat 2))).eval #[Value.ref b] s none [] s = some (.int (14)) := va_eqt (hs (.eq (.elem (.static "TinStation$Crew" "BREATH" "[I") (.int 2)) (.int (14))) (by decide +kernel))
  obtain ⟨t, ht, hT⟩ := va_Tof (A := fun q => s.heap.size ≤ q) (tm := (.static "TinStation$Crew" "BREATH" "[I")) (ty := .int) (N := 3) (f := fun i => .int ((ec_xt[1]?.getD (0, fun _ => 0)).2 i)) (by decide) (hs _ (by decide +kernel)) hlen (fun j hj => by
    rcases (show j = 0 ∨ j = 1 ∨ j = 2 by omega) with rfl | rfl | rfl
    · exact h0
    · exact h1
    · exact h2) hA
  refine ⟨t, fun n f hq => ?_, va_Zref (hts _ (List.mem_of_getElem? (i := 807) (by decide +kernel))) (hts _ (List.mem_of_getElem? (i := 62) (by decide +kernel))) ht hA⟩
  cases hq
  exact hT
set_option maxHeartbeats 4000000 in
theorem st_2 {s : State} {b : Nat} (hts : ∀ w ∈ lw_tbl, w.before #[Value.ref b] s = true) (hgv : (Jvm.Cond.and given_1 narrow_1).before #[Value.ref b] s = true) : ∃ t : Nat, (∀ n f, ec_xt[2]? = some (n, f) → va_T .int t n (fun i => .int (f i)) (fun q => s.heap.size ≤ q) s s.heap) ∧ va_Z "TinStation$Crew" "WARMTH" "[I" (.ref t) (fun q => s.heap.size ≤ q) s s.heap := by
  have hs := flat_of_before _ hgv
  have hA : ∀ a : Nat, a < s.heap.size → ¬ s.heap.size ≤ a := fun a h => Nat.not_le.mpr h
  have hlen : (Term.length (.static "TinStation$Crew" "WARMTH" "[I")).eval #[Value.ref b] s none [] s = some (.int (Int32.ofNat 3)) := va_eqt (hs (.eq (.length (.static "TinStation$Crew" "WARMTH" "[I")) (.int 3)) (by decide +kernel))
  have h0 : (Term.elem (.static "TinStation$Crew" "WARMTH" "[I") (.int (Int32.ofNat 0))).eval #[Value.ref b] s none [] s = some (.int (10)) := va_eqt (hs (.eq (.elem (.static "TinStation$Crew" "WARMTH" "[I") (.int 0)) (.int (10))) (by decide +kernel))
  have h1 : (Term.elem (.static "TinStation$Crew" "WARMTH" "[I") (.int (Int32.ofNat 1))).eval #[Value.ref b] s none [] s = some (.int (15)) := va_eqt (hs (.eq (.elem (.static "TinStation$Crew" "WARMTH" "[I") (.int 1)) (.int (15))) (by decide +kernel))
  have h2 : (Term.elem (.static "TinStation$Crew" "WARMTH" "[I") (.int (Int32.ofNat 2))).eval #[Value.ref b] s none [] s = some (.int (40)) := va_eqt (hs (.eq (.elem (.static "TinStation$Crew" "WARMTH" "[I") (.int 2)) (.int (40))) (by decide +kernel))
  obtain ⟨t, ht, hT⟩ := va_Tof (A := fun q => s.heap.size ≤ q) (tm := (.static "TinStation$Crew" "WARMTH" "[I")) (ty := .int) (N := 3) (f := fun i => .int ((ec_xt[2]?.getD (0, fun _ => 0)).2 i)) (by decide) (hs _ (by decide +kernel)) hlen (fun j hj => by
    rcases (show j = 0 ∨ j = 1 ∨ j = 2 by omega) with rfl | rfl | rfl
    · exact h0
    · exact h1
    · exact h2) hA
  refine ⟨t, fun n f hq => ?_, va_Zref (hts _ (List.mem_of_getElem? (i := 818) (by decide +kernel))) (hts _ (List.mem_of_getElem? (i := 62) (by decide +kernel))) ht hA⟩
  cases hq
  exact hT
set_option maxRecDepth 100000 in
set_option maxHeartbeats 40000000 in
/-- the walk of one call, behind the switch's head -/
theorem law_body {xs : Nat → Int32} {L : Nat} {i : Int32} {cs : ex_C} (hi1 : 0 ≤ i.toInt) (hi2 : i.toInt + 5 ≤ (L : Int)) (hL : L ≤ 2560) (hk : ab_hk ab_hd cs) (hR : rel_R cs) : ex_wp (ec_xt ++ [(L, xs)]) bx_L cL_law (some .boolean) (law_I i) law_Q 66 26 [some (.ref 1003), some (.ref 0), some (.ref 76), some (.int i)] [] cs := by
  refine wq_aload_n dL_law_26 rfl rfl ?_
  refine go_wp rfl (wq_iload_n dL_law_27 rfl rfl ?_)
  refine go_wp rfl (wq_ialoadX (j := 3) (v := xs i.toNatClampNeg) dL_law_28 rfl rfl (ix_0 hi1 hi2) rfl rfl ?_)
  refine go_wp rfl (wq_bipush (v := 63) dL_law_29 (by decide) rfl ?_)
  refine go_wp rfl (wq_iand (v := xs i.toNatClampNeg &&& 63) dL_law_31 rfl rfl ?_)
  refine go_wp rfl (wq_table dL_law_32 (by decide) (fun _ => wq_to (t := 1540) (by decide) ?_) ⟨fun _ => wq_to (t := 232) (by decide) (case_0 hi1 hi2 hL hk hR), fun _ => wq_to (t := 245) (by decide) (case_1 hi1 hi2 hL hk hR), fun _ => wq_to (t := 278) (by decide) (case_2 hi1 hi2 hL hk hR), fun _ => wq_to (t := 311) (by decide) (case_3 hi1 hi2 hL hk hR), fun _ => wq_to (t := 354) (by decide) (case_4 hi1 hi2 hL hk hR), fun _ => wq_to (t := 387) (by decide) (case_5 hi1 hi2 hL hk hR), fun _ => wq_to (t := 420) (by decide) (case_6 hi1 hi2 hL hk hR), fun _ => wq_to (t := 433) (by decide) (case_7 hi1 hi2 hL hk hR), fun _ => wq_to (t := 456) (by decide) (case_8 hi1 hi2 hL hk hR), fun _ => wq_to (t := 489) (by decide) (case_9 hi1 hi2 hL hk hR), fun _ => wq_to (t := 522) (by decide) (case_10 hi1 hi2 hL hk hR), fun _ => wq_to (t := 555) (by decide) (case_11 hi1 hi2 hL hk hR), fun _ => wq_to (t := 608) (by decide) (case_12 hi1 hi2 hL hk hR), fun _ => wq_to (t := 641) (by decide) (case_13 hi1 hi2 hL hk hR), fun _ => wq_to (t := 674) (by decide) (case_14 hi1 hi2 hL hk hR), fun _ => wq_to (t := 707) (by decide) (case_15 hi1 hi2 hL hk hR), fun _ => wq_to (t := 740) (by decide) (case_16 hi1 hi2 hL hk hR), fun _ => wq_to (t := 783) (by decide) (case_17 hi1 hi2 hL hk hR), fun _ => wq_to (t := 816) (by decide) (case_18 hi1 hi2 hL hk hR), fun _ => wq_to (t := 849) (by decide) (case_19 hi1 hi2 hL hk hR), fun _ => wq_to (t := 872) (by decide) (case_20 hi1 hi2 hL hk hR), fun _ => wq_to (t := 915) (by decide) (case_21 hi1 hi2 hL hk hR), fun _ => wq_to (t := 938) (by decide) (case_22 hi1 hi2 hL hk hR), fun _ => wq_to (t := 961) (by decide) (case_23 hi1 hi2 hL hk hR), fun _ => wq_to (t := 984) (by decide) (case_24 hi1 hi2 hL hk hR), fun _ => wq_to (t := 1037) (by decide) (case_25 hi1 hi2 hL hk hR), fun _ => wq_to (t := 1050) (by decide) (case_26 hi1 hi2 hL hk hR), fun _ => wq_to (t := 1063) (by decide) (case_27 hi1 hi2 hL hk hR), fun _ => wq_to (t := 1086) (by decide) (case_28 hi1 hi2 hL hk hR), fun _ => wq_to (t := 1099) (by decide) (case_29 hi1 hi2 hL hk hR), fun _ => wq_to (t := 1122) (by decide) (case_30 hi1 hi2 hL hk hR), fun _ => wq_to (t := 1135) (by decide) (case_31 hi1 hi2 hL hk hR), fun _ => wq_to (t := 1168) (by decide) (case_32 hi1 hi2 hL hk hR), fun _ => wq_to (t := 1191) (by decide) (case_33 hi1 hi2 hL hk hR), fun _ => wq_to (t := 1204) (by decide) (case_34 hi1 hi2 hL hk hR), fun _ => wq_to (t := 1237) (by decide) (case_35 hi1 hi2 hL hk hR), fun _ => wq_to (t := 1270) (by decide) (case_36 hi1 hi2 hL hk hR), fun _ => wq_to (t := 1293) (by decide) (case_37 hi1 hi2 hL hk hR), fun _ => wq_to (t := 1316) (by decide) (case_38 hi1 hi2 hL hk hR), fun _ => wq_to (t := 1349) (by decide) (case_39 hi1 hi2 hL hk hR), fun _ => wq_to (t := 1382) (by decide) (case_40 hi1 hi2 hL hk hR), fun _ => wq_to (t := 1415) (by decide) (case_41 hi1 hi2 hL hk hR), fun _ => wq_to (t := 1438) (by decide) (case_42 hi1 hi2 hL hk hR), fun _ => wq_to (t := 1461) (by decide) (case_43 hi1 hi2 hL hk hR), fun _ => wq_to (t := 1494) (by decide) (case_44 hi1 hi2 hL hk hR), fun _ => wq_to (t := 1517) (by decide) (case_45 hi1 hi2 hL hk hR), trivial⟩)
  refine go_wp rfl (wq_iinc (v := i + Int32.ofInt 5) (lv' := [some (.ref 1003), some (.ref 0), some (.ref 76), some (.int (i + Int32.ofInt 5))]) dL_law_1540 rfl ⟨Nat.le_of_ble_eq_true rfl, rfl⟩ rfl rfl rfl ?_)
  refine go_wp rfl (wq_goto (t := 18) dL_law_1543 (by decide) ?_)
  exact go_cut rfl ⟨rfl, rfl, hk, hR⟩
theorem ini_z {lo hi : Int} {j m : Nat} (h1 : lo ≤ 0) (h2 : 0 ≤ hi) : (ab_sg [(m, lo, hi)] j).1 ≤ (0 : Int32).toInt ∧ (0 : Int32).toInt ≤ (ab_sg [(m, lo, hi)] j).2 := by
  have z : (0 : Int32).toInt = 0 := by decide
  rw [z]
  show (if j < m then (lo, hi) else ((-2147483648 : Int), (2147483647 : Int))).1 ≤ 0 ∧ 0 ≤ (if j < m then (lo, hi) else ((-2147483648 : Int), (2147483647 : Int))).2
  split
  · exact ⟨h1, h2⟩
  · exact ⟨by decide, by decide⟩
theorem ini_t {m j : Nat} (x : Int32) : (ab_sg [(m, -2147483648, 2147483647)] j).1 ≤ x.toInt ∧ x.toInt ≤ (ab_sg [(m, -2147483648, 2147483647)] j).2 := by
  show (if j < m then ((-2147483648 : Int), (2147483647 : Int)) else ((-2147483648 : Int), (2147483647 : Int))).1 ≤ x.toInt ∧ x.toInt ≤ (if j < m then ((-2147483648 : Int), (2147483647 : Int)) else ((-2147483648 : Int), (2147483647 : Int))).2
  split
  · exact ⟨ab_ge x, ab_lt' x⟩
  · exact ⟨ab_ge x, ab_lt' x⟩
theorem ini_sg : ∀ {l : List (Nat × Int × Int)}, l.all (fun q => decide (q.2.1 ≤ 0 ∧ 0 ≤ q.2.2)) = true → ∀ j, (ab_sg l j).1 ≤ (0 : Int32).toInt ∧ (0 : Int32).toInt ≤ (ab_sg l j).2
  | [], _, j => by
    show (-2147483648 : Int) ≤ _ ∧ _ ≤ (2147483647 : Int)
    decide
  | q :: r, h, j => by
    obtain ⟨h1, h2⟩ := ab_b h
    have h3 := of_decide_eq_true h1
    have z : (0 : Int32).toInt = 0 := by decide
    unfold ab_sg
    split
    · rw [z]; exact h3
    · exact ini_sg h2 _
set_option maxRecDepth 100000 in
theorem ini_hk : ab_hk ab_hd ini_cs := by
  refine ⟨rfl, fun k h e => ?_⟩
  match k, e with
  | 0, e =>
    cases e
    refine ⟨_, rfl, rfl, fun j t ht => ?_⟩
    match j, ht with
    | 0, ht => cases ht; exact ⟨_, rfl, rfl⟩
    | 1, ht => cases ht; exact ⟨_, rfl, rfl⟩
    | 2, ht => cases ht; exact ⟨_, rfl, rfl⟩
    | 3, ht => cases ht; exact ⟨_, rfl, rfl⟩
    | 4, ht => cases ht; exact ⟨_, rfl, rfl⟩
    | 5, ht => cases ht; exact ⟨_, rfl, rfl⟩
    | 6, ht => cases ht; exact ⟨_, rfl, rfl⟩
    | 7, ht => cases ht; exact ⟨_, rfl, _, rfl, by decide, by decide⟩
    | 8, ht => cases ht; exact ⟨_, rfl, _, rfl, by decide, by decide⟩
    | 9, ht => cases ht; exact ⟨_, rfl, _, rfl, by decide, by decide⟩
    | j + 10, ht => simp at ht
  | 1, e =>
    cases e
    refine ⟨_, rfl, rfl, fun j t ht => ?_⟩
    match j, ht with
    | 0, ht => cases ht; exact ⟨_, rfl, rfl⟩
    | 1, ht => cases ht; exact ⟨_, rfl, rfl⟩
    | 2, ht => cases ht; exact ⟨_, rfl, rfl⟩
    | 3, ht => cases ht; exact ⟨_, rfl, rfl⟩
    | 4, ht => cases ht; exact ⟨_, rfl, _, rfl, by decide, by decide⟩
    | j + 5, ht => simp at ht
  | 2, e => cases e; exact ⟨_, rfl, fun j hj => ini_t _⟩
  | 3, e => cases e; exact ⟨_, rfl, fun j hj => ini_t _⟩
  | 4, e => cases e; exact ⟨_, rfl, fun j hj => ini_t _⟩
  | 5, e => cases e; exact ⟨_, rfl, fun j hj => ini_t _⟩
  | 6, e =>
    cases e
    refine ⟨_, rfl, rfl, fun j t ht => ?_⟩
    match j, ht with
    | 0, ht => cases ht; exact ⟨_, rfl, rfl⟩
    | 1, ht => cases ht; exact ⟨_, rfl, rfl⟩
    | 2, ht => cases ht; exact ⟨_, rfl, rfl⟩
    | 3, ht => cases ht; exact ⟨_, rfl, rfl⟩
    | 4, ht => cases ht; exact ⟨_, rfl, rfl⟩
    | 5, ht => cases ht; exact ⟨_, rfl, rfl⟩
    | 6, ht => cases ht; exact ⟨_, rfl, _, rfl, by decide, by decide⟩
    | j + 7, ht => simp at ht
  | 7, e =>
    cases e
    refine ⟨_, rfl, rfl, fun j t ht => ?_⟩
    match j, ht with
    | 0, ht => cases ht; exact ⟨_, rfl, rfl⟩
    | 1, ht => cases ht; exact ⟨_, rfl, rfl⟩
    | 2, ht => cases ht; exact ⟨_, rfl, rfl⟩
    | 3, ht => cases ht; exact ⟨_, rfl, rfl⟩
    | 4, ht => cases ht; exact ⟨_, rfl, rfl⟩
    | 5, ht => cases ht; exact ⟨_, rfl, rfl⟩
    | 6, ht => cases ht; exact ⟨_, rfl, _, rfl, by decide, by decide⟩
    | 7, ht => cases ht; exact ⟨_, rfl, _, rfl, by decide, by decide⟩
    | j + 8, ht => simp at ht
  | 8, e => cases e; exact ⟨_, rfl, fun j hj => ini_t _⟩
  | 9, e => cases e; exact ⟨_, rfl, fun j hj => ini_t _⟩
  | 10, e => cases e; exact ⟨_, rfl, fun j hj => ini_z (by decide) (by decide)⟩
  | 11, e => cases e; exact ⟨_, rfl, fun j hj => ini_z (by decide) (by decide)⟩
  | 12, e => cases e; exact ⟨_, rfl, fun j hj => ini_z (by decide) (by decide)⟩
  | 13, e => cases e; exact ⟨_, rfl, fun j hj => ini_t _⟩
  | 14, e =>
    cases e
    refine ⟨_, rfl, rfl, fun j t ht => ?_⟩
    match j, ht with
    | 0, ht => cases ht; exact ⟨_, rfl, rfl⟩
    | 1, ht => cases ht; exact ⟨_, rfl, rfl⟩
    | 2, ht => cases ht; exact ⟨_, rfl, rfl⟩
    | 3, ht => cases ht; exact ⟨_, rfl, rfl⟩
    | 4, ht => cases ht; exact ⟨_, rfl, rfl⟩
    | 5, ht => cases ht; exact ⟨_, rfl, rfl⟩
    | 6, ht => cases ht; exact ⟨_, rfl, _, rfl, by decide, by decide⟩
    | j + 7, ht => simp at ht
  | 15, e => cases e; exact ⟨_, rfl, fun j hj => ini_z (by decide) (by decide)⟩
  | 16, e => cases e; exact ⟨_, rfl, fun j hj => ini_z (by decide) (by decide)⟩
  | 17, e => cases e; exact ⟨_, rfl, fun j hj => ini_z (by decide) (by decide)⟩
  | 18, e => cases e; exact ⟨_, rfl, fun j hj => ini_t _⟩
  | 19, e => cases e; exact ⟨_, rfl, fun j hj => ini_t _⟩
  | 20, e => cases e; exact ⟨_, rfl, fun j hj => ini_t _⟩
  | 21, e =>
    cases e
    refine ⟨_, rfl, rfl, fun j t ht => ?_⟩
    match j, ht with
    | 0, ht => cases ht; exact ⟨_, rfl, rfl⟩
    | 1, ht => cases ht; exact ⟨_, rfl, rfl⟩
    | 2, ht => cases ht; exact ⟨_, rfl, rfl⟩
    | 3, ht => cases ht; exact ⟨_, rfl, rfl⟩
    | 4, ht => cases ht; exact ⟨_, rfl, rfl⟩
    | 5, ht => cases ht; exact ⟨_, rfl, rfl⟩
    | 6, ht => cases ht; exact ⟨_, rfl, rfl⟩
    | 7, ht => cases ht; exact ⟨_, rfl, rfl⟩
    | 8, ht => cases ht; exact ⟨_, rfl, rfl⟩
    | 9, ht => cases ht; exact ⟨_, rfl, rfl⟩
    | 10, ht => cases ht; exact ⟨_, rfl, rfl⟩
    | 11, ht => cases ht; exact ⟨_, rfl, _, rfl, by decide, by decide⟩
    | 12, ht => cases ht; exact ⟨_, rfl, _, rfl, by decide, by decide⟩
    | 13, ht => cases ht; exact ⟨_, rfl, _, rfl, by decide, by decide⟩
    | 14, ht => cases ht; exact ⟨_, rfl, _, rfl, by decide, by decide⟩
    | j + 15, ht => simp at ht
  | 22, e => cases e; exact ⟨_, rfl, fun j hj => ini_z (by decide) (by decide)⟩
  | 23, e => cases e; exact ⟨_, rfl, fun j hj => ini_z (by decide) (by decide)⟩
  | 24, e => cases e; exact ⟨_, rfl, fun j hj => ini_t _⟩
  | 25, e => cases e; exact ⟨_, rfl, fun j hj => ini_t _⟩
  | 26, e => cases e; exact ⟨_, rfl, fun j hj => ini_t _⟩
  | 27, e => cases e; exact ⟨_, rfl, fun j hj => ini_t _⟩
  | 28, e => cases e; exact ⟨_, rfl, fun j hj => ini_t _⟩
  | 29, e => cases e; exact ⟨_, rfl, fun j hj => ini_z (by decide) (by decide)⟩
  | 30, e => cases e; exact ⟨_, rfl, fun j hj => ini_z (by decide) (by decide)⟩
  | 31, e => cases e; exact ⟨_, rfl, fun j hj => ini_z (by decide) (by decide)⟩
  | 32, e => cases e; exact ⟨_, rfl, fun j hj => ini_t _⟩
  | 33, e =>
    cases e
    refine ⟨_, rfl, rfl, fun j t ht => ?_⟩
    match j, ht with
    | 0, ht => cases ht; exact ⟨_, rfl, _, rfl, by decide, by decide⟩
    | 1, ht => cases ht; exact ⟨_, rfl, _, rfl, by decide, by decide⟩
    | 2, ht => cases ht; exact ⟨_, rfl, _, rfl, by decide, by decide⟩
    | 3, ht => cases ht; exact ⟨_, rfl, _, rfl, by decide, by decide⟩
    | 4, ht => cases ht; exact ⟨_, rfl, _, rfl, by decide, by decide⟩
    | 5, ht => cases ht; exact ⟨_, rfl, _, rfl, by decide, by decide⟩
    | j + 6, ht => simp at ht
  | 34, e =>
    cases e
    refine ⟨_, rfl, rfl, fun j t ht => ?_⟩
    match j, ht with
    | 0, ht => cases ht; exact ⟨_, rfl, _, rfl, by decide, by decide⟩
    | 1, ht => cases ht; exact ⟨_, rfl, _, rfl, by decide, by decide⟩
    | 2, ht => cases ht; exact ⟨_, rfl, _, rfl, by decide, by decide⟩
    | 3, ht => cases ht; exact ⟨_, rfl, _, rfl, by decide, by decide⟩
    | 4, ht => cases ht; exact ⟨_, rfl, _, rfl, by decide, by decide⟩
    | 5, ht => cases ht; exact ⟨_, rfl, _, rfl, by decide, by decide⟩
    | 6, ht => cases ht; exact ⟨_, rfl, _, rfl, by decide, by decide⟩
    | j + 7, ht => simp at ht
  | 35, e =>
    cases e
    refine ⟨_, rfl, rfl, fun j t ht => ?_⟩
    match j, ht with
    | 0, ht => cases ht; exact ⟨_, rfl, rfl⟩
    | 1, ht => cases ht; exact ⟨_, rfl, rfl⟩
    | 2, ht => cases ht; exact ⟨_, rfl, rfl⟩
    | 3, ht => cases ht; exact ⟨_, rfl, rfl⟩
    | 4, ht => cases ht; exact ⟨_, rfl, rfl⟩
    | 5, ht => cases ht; exact ⟨_, rfl, rfl⟩
    | 6, ht => cases ht; exact ⟨_, rfl, _, rfl, by decide, by decide⟩
    | j + 7, ht => simp at ht
  | 36, e =>
    cases e
    refine ⟨_, rfl, rfl, fun j t ht => ?_⟩
    match j, ht with
    | 0, ht => cases ht; exact ⟨_, rfl, rfl⟩
    | 1, ht => cases ht; exact ⟨_, rfl, rfl⟩
    | 2, ht => cases ht; exact ⟨_, rfl, rfl⟩
    | 3, ht => cases ht; exact ⟨_, rfl, rfl⟩
    | 4, ht => cases ht; exact ⟨_, rfl, rfl⟩
    | 5, ht => cases ht; exact ⟨_, rfl, rfl⟩
    | 6, ht => cases ht; exact ⟨_, rfl, _, rfl, by decide, by decide⟩
    | 7, ht => cases ht; exact ⟨_, rfl, _, rfl, by decide, by decide⟩
    | j + 8, ht => simp at ht
  | 37, e => cases e; exact ⟨_, rfl, fun j hj => ini_t _⟩
  | 38, e => cases e; exact ⟨_, rfl, fun j hj => ini_t _⟩
  | 39, e => cases e; exact ⟨_, rfl, fun j hj => ini_z (by decide) (by decide)⟩
  | 40, e => cases e; exact ⟨_, rfl, fun j hj => ini_z (by decide) (by decide)⟩
  | 41, e => cases e; exact ⟨_, rfl, fun j hj => ini_z (by decide) (by decide)⟩
  | 42, e => cases e; exact ⟨_, rfl, fun j hj => ini_t _⟩
  | 43, e =>
    cases e
    refine ⟨_, rfl, rfl, fun j t ht => ?_⟩
    match j, ht with
    | 0, ht => cases ht; exact ⟨_, rfl, rfl⟩
    | 1, ht => cases ht; exact ⟨_, rfl, rfl⟩
    | 2, ht => cases ht; exact ⟨_, rfl, rfl⟩
    | 3, ht => cases ht; exact ⟨_, rfl, rfl⟩
    | 4, ht => cases ht; exact ⟨_, rfl, rfl⟩
    | 5, ht => cases ht; exact ⟨_, rfl, rfl⟩
    | 6, ht => cases ht; exact ⟨_, rfl, _, rfl, by decide, by decide⟩
    | j + 7, ht => simp at ht
  | 44, e => cases e; exact ⟨_, rfl, fun j hj => ini_z (by decide) (by decide)⟩
  | 45, e => cases e; exact ⟨_, rfl, fun j hj => ini_z (by decide) (by decide)⟩
  | 46, e => cases e; exact ⟨_, rfl, fun j hj => ini_z (by decide) (by decide)⟩
  | 47, e => cases e; exact ⟨_, rfl, fun j hj => ini_t _⟩
  | 48, e => cases e; exact ⟨_, rfl, fun j hj => ini_t _⟩
  | 49, e => cases e; exact ⟨_, rfl, fun j hj => ini_t _⟩
  | 50, e =>
    cases e
    refine ⟨_, rfl, rfl, fun j t ht => ?_⟩
    match j, ht with
    | 0, ht => cases ht; exact ⟨_, rfl, rfl⟩
    | 1, ht => cases ht; exact ⟨_, rfl, rfl⟩
    | 2, ht => cases ht; exact ⟨_, rfl, rfl⟩
    | 3, ht => cases ht; exact ⟨_, rfl, rfl⟩
    | 4, ht => cases ht; exact ⟨_, rfl, rfl⟩
    | 5, ht => cases ht; exact ⟨_, rfl, rfl⟩
    | 6, ht => cases ht; exact ⟨_, rfl, rfl⟩
    | 7, ht => cases ht; exact ⟨_, rfl, rfl⟩
    | 8, ht => cases ht; exact ⟨_, rfl, rfl⟩
    | 9, ht => cases ht; exact ⟨_, rfl, rfl⟩
    | 10, ht => cases ht; exact ⟨_, rfl, rfl⟩
    | 11, ht => cases ht; exact ⟨_, rfl, _, rfl, by decide, by decide⟩
    | 12, ht => cases ht; exact ⟨_, rfl, _, rfl, by decide, by decide⟩
    | 13, ht => cases ht; exact ⟨_, rfl, _, rfl, by decide, by decide⟩
    | 14, ht => cases ht; exact ⟨_, rfl, _, rfl, by decide, by decide⟩
    | j + 15, ht => simp at ht
  | 51, e => cases e; exact ⟨_, rfl, fun j hj => ini_z (by decide) (by decide)⟩
  | 52, e => cases e; exact ⟨_, rfl, fun j hj => ini_z (by decide) (by decide)⟩
  | 53, e => cases e; exact ⟨_, rfl, fun j hj => ini_t _⟩
  | 54, e => cases e; exact ⟨_, rfl, fun j hj => ini_t _⟩
  | 55, e => cases e; exact ⟨_, rfl, fun j hj => ini_t _⟩
  | 56, e => cases e; exact ⟨_, rfl, fun j hj => ini_t _⟩
  | 57, e => cases e; exact ⟨_, rfl, fun j hj => ini_t _⟩
  | 58, e => cases e; exact ⟨_, rfl, fun j hj => ini_z (by decide) (by decide)⟩
  | 59, e => cases e; exact ⟨_, rfl, fun j hj => ini_z (by decide) (by decide)⟩
  | 60, e => cases e; exact ⟨_, rfl, fun j hj => ini_z (by decide) (by decide)⟩
  | 61, e => cases e; exact ⟨_, rfl, fun j hj => ini_t _⟩
  | 62, e =>
    cases e
    refine ⟨_, rfl, rfl, fun j t ht => ?_⟩
    match j, ht with
    | 0, ht => cases ht; exact ⟨_, rfl, _, rfl, by decide, by decide⟩
    | 1, ht => cases ht; exact ⟨_, rfl, _, rfl, by decide, by decide⟩
    | 2, ht => cases ht; exact ⟨_, rfl, _, rfl, by decide, by decide⟩
    | 3, ht => cases ht; exact ⟨_, rfl, _, rfl, by decide, by decide⟩
    | 4, ht => cases ht; exact ⟨_, rfl, _, rfl, by decide, by decide⟩
    | 5, ht => cases ht; exact ⟨_, rfl, _, rfl, by decide, by decide⟩
    | j + 6, ht => simp at ht
  | 63, e =>
    cases e
    refine ⟨_, rfl, rfl, fun j t ht => ?_⟩
    match j, ht with
    | 0, ht => cases ht; exact ⟨_, rfl, _, rfl, by decide, by decide⟩
    | 1, ht => cases ht; exact ⟨_, rfl, _, rfl, by decide, by decide⟩
    | 2, ht => cases ht; exact ⟨_, rfl, _, rfl, by decide, by decide⟩
    | 3, ht => cases ht; exact ⟨_, rfl, _, rfl, by decide, by decide⟩
    | 4, ht => cases ht; exact ⟨_, rfl, _, rfl, by decide, by decide⟩
    | 5, ht => cases ht; exact ⟨_, rfl, _, rfl, by decide, by decide⟩
    | 6, ht => cases ht; exact ⟨_, rfl, _, rfl, by decide, by decide⟩
    | j + 7, ht => simp at ht
  | 64, e =>
    cases e
    refine ⟨_, rfl, rfl, fun j t ht => ?_⟩
    match j, ht with
    | 0, ht => cases ht; exact ⟨_, rfl, rfl⟩
    | 1, ht => cases ht; exact ⟨_, rfl, _, rfl, by decide, by decide⟩
    | j + 2, ht => simp at ht
  | 65, e => cases e; exact ⟨_, rfl, fun j hj => ini_t _⟩
  | 66, e =>
    cases e
    refine ⟨_, rfl, rfl, fun j t ht => ?_⟩
    match j, ht with
    | 0, ht => cases ht; exact ⟨_, rfl, rfl⟩
    | 1, ht => cases ht; exact ⟨_, rfl, rfl⟩
    | 2, ht => cases ht; exact ⟨_, rfl, rfl⟩
    | 3, ht => cases ht; exact ⟨_, rfl, rfl⟩
    | 4, ht => cases ht; exact ⟨_, rfl, rfl⟩
    | 5, ht => cases ht; exact ⟨_, rfl, rfl⟩
    | 6, ht => cases ht; exact ⟨_, rfl, rfl⟩
    | 7, ht => cases ht; exact ⟨_, rfl, _, rfl, by decide, by decide⟩
    | 8, ht => cases ht; exact ⟨_, rfl, _, rfl, by decide, by decide⟩
    | 9, ht => cases ht; exact ⟨_, rfl, _, rfl, by decide, by decide⟩
    | j + 10, ht => simp at ht
  | 67, e => cases e; exact ⟨_, rfl, fun j hj => ini_t _⟩
  | 68, e => cases e; exact ⟨_, rfl, fun j hj => ini_t _⟩
  | 69, e => cases e; exact ⟨_, rfl, fun j hj => ini_t _⟩
  | 70, e => cases e; exact ⟨_, rfl, fun j hj => ini_t _⟩
  | 71, e => cases e; exact ⟨_, rfl, fun j hj => ini_t _⟩
  | 72, e => cases e; exact ⟨_, rfl, fun j hj => ini_t _⟩
  | 73, e => cases e; exact ⟨_, rfl, fun j hj => ini_t _⟩
  | 74, e => cases e; exact ⟨_, rfl, fun j hj => ini_t _⟩
  | 75, e => cases e; exact ⟨_, rfl, fun j hj => ini_t _⟩
  | 76, e =>
    cases e
    refine ⟨_, rfl, rfl, fun j t ht => ?_⟩
    match j, ht with
    | 0, ht => cases ht; exact ⟨_, rfl, _, rfl, by decide, by decide⟩
    | 1, ht => cases ht; exact ⟨_, rfl, rfl⟩
    | 2, ht => cases ht; exact ⟨_, rfl, rfl⟩
    | 3, ht => cases ht; exact ⟨_, rfl, rfl⟩
    | 4, ht => cases ht; exact ⟨_, rfl, _, rfl, by decide, by decide⟩
    | 5, ht => cases ht; exact ⟨_, rfl, rfl⟩
    | 6, ht => cases ht; exact ⟨_, rfl, rfl⟩
    | 7, ht => cases ht; exact ⟨_, rfl, rfl⟩
    | 8, ht => cases ht; exact ⟨_, rfl, rfl⟩
    | 9, ht => cases ht; exact ⟨_, rfl, _, rfl, by decide, by decide⟩
    | 10, ht => cases ht; exact ⟨_, rfl, rfl⟩
    | 11, ht => cases ht; exact ⟨_, rfl, rfl⟩
    | 12, ht => cases ht; exact ⟨_, rfl, rfl⟩
    | 13, ht => cases ht; exact ⟨_, rfl, rfl⟩
    | 14, ht => cases ht; exact ⟨_, rfl, rfl⟩
    | 15, ht => cases ht; exact ⟨_, rfl, rfl⟩
    | 16, ht => cases ht; exact ⟨_, rfl, _, rfl, by decide, by decide⟩
    | 17, ht => cases ht; exact ⟨_, rfl, rfl⟩
    | 18, ht => cases ht; exact ⟨_, rfl, rfl⟩
    | 19, ht => cases ht; exact ⟨_, rfl, rfl⟩
    | 20, ht => cases ht; exact ⟨_, rfl, rfl⟩
    | 21, ht => cases ht; exact ⟨_, rfl, rfl⟩
    | 22, ht => cases ht; exact ⟨_, rfl, rfl⟩
    | 23, ht => cases ht; exact ⟨_, rfl, rfl⟩
    | 24, ht => cases ht; exact ⟨_, rfl, rfl⟩
    | 25, ht => cases ht; exact ⟨_, rfl, rfl⟩
    | 26, ht => cases ht; exact ⟨_, rfl, rfl⟩
    | 27, ht => cases ht; exact ⟨_, rfl, rfl⟩
    | 28, ht => cases ht; exact ⟨_, rfl, rfl⟩
    | 29, ht => cases ht; exact ⟨_, rfl, _, rfl, by decide, by decide⟩
    | 30, ht => cases ht; exact ⟨_, rfl, _, rfl, by decide, by decide⟩
    | 31, ht => cases ht; exact ⟨_, rfl, _, rfl, by decide, by decide⟩
    | 32, ht => cases ht; exact ⟨_, rfl, _, rfl, by decide, by decide⟩
    | 33, ht => cases ht; exact ⟨_, rfl, _, rfl, by decide, by decide⟩
    | 34, ht => cases ht; exact ⟨_, rfl, _, rfl, by decide, by decide⟩
    | 35, ht => cases ht; exact ⟨_, rfl, rfl⟩
    | 36, ht => cases ht; exact ⟨_, rfl, rfl⟩
    | 37, ht => cases ht; exact ⟨_, rfl, rfl⟩
    | 38, ht => cases ht; exact ⟨_, rfl, rfl⟩
    | 39, ht => cases ht; exact ⟨_, rfl, _, rfl, by decide, by decide⟩
    | 40, ht => cases ht; exact ⟨_, rfl, _, rfl, by decide, by decide⟩
    | 41, ht => cases ht; exact ⟨_, rfl, rfl⟩
    | 42, ht => cases ht; exact ⟨_, rfl, rfl⟩
    | 43, ht => cases ht; exact ⟨_, rfl, rfl⟩
    | 44, ht => cases ht; exact ⟨_, rfl, rfl⟩
    | 45, ht => cases ht; exact ⟨_, rfl, _, rfl, by decide, by decide⟩
    | 46, ht => cases ht; exact ⟨_, rfl, rfl⟩
    | 47, ht => cases ht; exact ⟨_, rfl, rfl⟩
    | 48, ht => cases ht; exact ⟨_, rfl, rfl⟩
    | 49, ht => cases ht; exact ⟨_, rfl, _, rfl, by decide, by decide⟩
    | 50, ht => cases ht; exact ⟨_, rfl, _, rfl, by decide, by decide⟩
    | 51, ht => cases ht; exact ⟨_, rfl, _, rfl, by decide, by decide⟩
    | 52, ht => cases ht; exact ⟨_, rfl, _, rfl, by decide, by decide⟩
    | 53, ht => cases ht; exact ⟨_, rfl, rfl⟩
    | 54, ht => cases ht; exact ⟨_, rfl, rfl⟩
    | 55, ht => cases ht; exact ⟨_, rfl, rfl⟩
    | 56, ht => cases ht; exact ⟨_, rfl, _, rfl, by decide, by decide⟩
    | j + 57, ht => simp at ht
  | 77, e => cases e; exact ⟨_, rfl, fun j hj => ini_t _⟩
  | 78, e => cases e; exact ⟨_, rfl, fun j hj => ini_t _⟩
  | 79, e => cases e; exact ⟨_, rfl, fun j hj => ini_t _⟩
  | 80, e => cases e; exact ⟨_, rfl, fun j hj => ini_z (by decide) (by decide)⟩
  | 81, e => cases e; exact ⟨_, rfl, fun j hj => ini_z (by decide) (by decide)⟩
  | 82, e => cases e; exact ⟨_, rfl, fun j hj => ini_t _⟩
  | 83, e => cases e; exact ⟨_, rfl, fun j hj => ini_t _⟩
  | 84, e => cases e; exact ⟨_, rfl, fun j hj => ini_z (by decide) (by decide)⟩
  | 85, e => cases e; exact ⟨_, rfl, fun j hj => ini_t _⟩
  | 86, e => cases e; exact ⟨_, rfl, fun j hj => ini_z (by decide) (by decide)⟩
  | 87, e => cases e; exact ⟨_, rfl, fun j hj => ini_t _⟩
  | 88, e => cases e; exact ⟨_, rfl, fun j hj => ini_t _⟩
  | 89, e => cases e; exact ⟨_, rfl, fun j hj => ini_t _⟩
  | 90, e => cases e; exact ⟨_, rfl, fun j hj => ini_z (by decide) (by decide)⟩
  | 91, e => cases e; exact ⟨_, rfl, fun j hj => ini_z (by decide) (by decide)⟩
  | 92, e => cases e; exact ⟨_, rfl, fun j hj => ini_t _⟩
  | 93, e => cases e; exact ⟨_, rfl, fun j hj => ini_t _⟩
  | 94, e => cases e; exact ⟨_, rfl, fun j hj => ini_t _⟩
  | 95, e => cases e; exact ⟨_, rfl, fun j hj => ini_t _⟩
  | 96, e => cases e; exact ⟨_, rfl, fun j hj => ini_t _⟩
  | 97, e => cases e; exact ⟨_, rfl, fun j hj => ini_t _⟩
  | 98, e => cases e; exact ⟨_, rfl, fun j hj => ini_t _⟩
  | 99, e => cases e; exact ⟨_, rfl, fun j hj => ini_t _⟩
  | 100, e => cases e; exact ⟨_, rfl, fun j hj => ini_t _⟩
  | 101, e => cases e; exact ⟨_, rfl, fun j hj => ini_t _⟩
  | 102, e => cases e; exact ⟨_, rfl, fun j hj => ini_t _⟩
  | 103, e => cases e; exact ⟨_, rfl, fun j hj => ini_t _⟩
  | 104, e => cases e; exact ⟨_, rfl, fun j hj => ini_t _⟩
  | 105, e => cases e; exact ⟨_, rfl, fun j hj => ini_t _⟩
  | 106, e => cases e; exact ⟨_, rfl, fun j hj => ini_t _⟩
  | 107, e => cases e; exact ⟨_, rfl, fun j hj => ini_t _⟩
  | 108, e => cases e; exact ⟨_, rfl, fun j hj => ini_t _⟩
  | 109, e => cases e; exact ⟨_, rfl, fun j hj => ini_t _⟩
  | 110, e => cases e; exact ⟨_, rfl, fun j hj => ini_t _⟩
  | 111, e => cases e; exact ⟨_, rfl, fun j hj => ini_t _⟩
  | 112, e => cases e; exact ⟨_, rfl, fun j hj => ini_t _⟩
  | 113, e => cases e; exact ⟨_, rfl, fun j hj => ini_t _⟩
  | 114, e => cases e; exact ⟨_, rfl, fun j hj => ini_t _⟩
  | 115, e => cases e; exact ⟨_, rfl, fun j hj => ini_sg (by decide) j⟩
  | k + 116, e => exact absurd (List.getElem?_eq_some_iff.mp e).1 (by show ¬ k + 116 < 116; omega)
section LAWS
variable {p : Program} {l : Launch} {e : Env} {s : State} {m : MethodId} {below : List Frame} {meth : Method} {c : Code} {D : va_G} {ad ca : Nat → Nat} {b L : Nat} {xs : Nat → Int32}
theorem law_ret (C : ex_Cx (ec_xt ++ [(L, xs)]) p room_1 s m #[Value.ref b] meth c D ad ca 116 4 9 316 (fun q => s.heap.size ≤ q) code (some .boolean) RL) {pc : Nat} {lv : ex_L} {cs : ex_C} (hd : decode code pc = .ok (.ireturn, 1)) : ex_T p l e room_1 s m #[Value.ref b] below meth c D ad ca 116 4 (fun q => s.heap.size ≤ q) 116 1805 (lw_Z below #[Value.ref b] s) pc lv [.int 1] cs := by
  obtain ⟨hx, hb, hml, hown, hts, hr, hlk, hD, hK, hX, hZ, hAe, hR1, hR2, hxt, hNw⟩ := C
  intro ls H locs G
  refine va_forget (fun q hq => G.2.2.2.2.2 q hq) ?_
  exact lw_ret hx hb hr hlk hd
theorem law_exit (C : ex_Cx (ec_xt ++ [(L, xs)]) p room_1 s m #[Value.ref b] meth c D ad ca 116 4 9 316 (fun q => s.heap.size ≤ q) code (some .boolean) RL) {lv : ex_L} {cs : ex_C} : ex_T p l e room_1 s m #[Value.ref b] below meth c D ad ca 116 4 (fun q => s.heap.size ≤ q) 116 1805 (lw_Z below #[Value.ref b] s) 1546 lv [] cs :=
  ex_s_iconst C dL_law_1546 (law_ret C dL_law_1547)
theorem law_lim (hL : L ≤ 2560) : (Int32.ofNat L - 5).toInt = (L : Int) - 5 := by
  have e5 : (5 : Int32).toInt = 5 := by decide
  rw [Int32.toInt_sub, Int32.toInt_ofNat_of_lt (by omega), e5, ab_bm (by omega) (by omega)]
set_option maxRecDepth 100000 in
set_option maxHeartbeats 40000000 in
theorem law_go (hL : L ≤ 2560) (C : ex_Cx (ec_xt ++ [(L, xs)]) p room_1 s m #[Value.ref b] meth c D ad ca 116 4 9 316 (fun q => s.heap.size ≤ q) code (some .boolean) RL) : ∀ (n : Nat) (i : Int32) (cs : ex_C), 0 ≤ i.toInt → i.toInt ≤ 2560 → 2560 - i.toInt ≤ (n : Int) → ab_hk ab_hd cs → rel_R cs → ex_T p l e room_1 s m #[Value.ref b] below meth c D ad ca 116 4 (fun q => s.heap.size ≤ q) 116 1805 (lw_Z below #[Value.ref b] s) 18 [some (.ref 1003), some (.ref 0), some (.ref 76), some (.int i)] [] cs := by
  intro n
  induction n with
  | zero =>
    intro i cs h1 h2 h3 hk hR
    refine ex_s_iload_n (x := i) C dL_law_18 rfl ?_
    refine ex_s_aload_n (x := 1003) C dL_law_19 rfl ?_
    refine ex_s_lengthX (n := L) (f := xs) C dL_law_20 (by decide) rfl rfl ?_
    refine ex_s_iconst C dL_law_21 ?_
    refine ex_s_isub C dL_law_22 ?_
    refine ex_s_icmp_gt (t := 1546) C dL_law_23 (by decide) (fun _ => law_exit C) (fun q => absurd (Int32.lt_iff_toInt_lt.mpr ?_) q)
    show (Int32.ofNat L - 5).toInt < i.toInt
    rw [law_lim hL]
    omega
  | succ n ih =>
    intro i cs h1 h2 h3 hk hR
    refine ex_s_iload_n (x := i) C dL_law_18 rfl ?_
    refine ex_s_aload_n (x := 1003) C dL_law_19 rfl ?_
    refine ex_s_lengthX (n := L) (f := xs) C dL_law_20 (by decide) rfl rfl ?_
    refine ex_s_iconst C dL_law_21 ?_
    refine ex_s_isub C dL_law_22 ?_
    refine ex_s_icmp_gt (t := 1546) C dL_law_23 (by decide) (fun _ => law_exit C) (fun q => ?_)
    have hq : i.toInt + 5 ≤ (L : Int) := by
      have h4 : ¬ (Int32.ofNat L - 5).toInt < i.toInt := fun h => q (Int32.lt_iff_toInt_lt.mpr h)
      rw [law_lim hL] at h4
      omega
    refine ex_wp_sound (cx := bx_L) (I := law_I i) (Q := law_Q) C (bj_L l) ⟨Nat.le_refl _, Nat.le_refl _⟩ (fun pc lv cs v hd _ hq => ?_) (fun _ _ _ _ h _ => (by cases h)) (fun pc J lv st cs hJ h => ?_) 66 26 _ _ _ (law_body h1 hq hL hk hR)
    · have hv : v = 1 := by
        unfold law_Q at hq
        cases hq
        rfl
      subst hv
      exact law_ret C hd
    · unfold law_I at hJ
      by_cases hp : pc = 18
      · rw [if_pos hp] at hJ
        cases hJ
        subst hp
        obtain ⟨rfl, rfl, hk', hR'⟩ := h
        have e5 : (i + Int32.ofInt 5).toInt = i.toInt + 5 := by
          have e : (Int32.ofInt 5).toInt = 5 := by decide
          rw [Int32.toInt_add, e, ab_bm (by omega) (by omega)]
        exact ih _ _ (by omega) (by omega) (by omega) hk' hR'
      · rw [if_neg hp] at hJ
        cases hJ
end LAWS
set_option maxHeartbeats 4000000 in
set_option maxRecDepth 100000 in
theorem whole_start {p : Program} {e : Env} {s : State} {m : MethodId} {below : List Frame} {meth : Method} {c : Code} (l : Launch) {b L : Nat} {xs : Nat → Int32} (hL : L ≤ 2560) (C0 : lw_At p s m meth c b L xs) : W p l e room_1 s m #[Value.ref b] below meth c s.heap [] 0 0 (lw_Z below #[Value.ref b] s) (entryFrame m ([Value.ref b] : List Value).toArray 4) := by
  obtain ⟨hx, hb, hr, hml, hown, hts, hX, hbl, hlocks, hgv⟩ := id C0
  have htb : ∀ w ∈ ec_tb, w.before #[Value.ref b] s = true := fun w hw => hts w (ec_sub w hw)
  obtain ⟨D, ca, hK⟩ := st_kinds hts
  obtain ⟨t0, hT0, hZ0⟩ := st_0 hts hgv
  obtain ⟨t1, hT1, hZ1⟩ := st_1 hts hgv
  obtain ⟨t2, hT2, hZ2⟩ := st_2 hts hgv
  have hNw : ex_Nw s := fun q hq => va_Nw.of rfl (hts _ (by simpa using List.all_eq_true.mp nw_all q hq))
  obtain ⟨ad, ha0, ha1, ha2, ha3⟩ : ∃ ad : Nat → Nat, ad 1000 = t0 ∧ ad 1001 = t1 ∧ ad 1002 = t2 ∧ ad 1003 = b := ⟨fun k => if k = 1000 then t0 else if k = 1001 then t1 else if k = 1002 then t2 else b, rfl, rfl, rfl, rfl⟩
  have hXx : ex_X ec_xt ad (fun q => s.heap.size ≤ q) s s.heap := by
    intro j n f hj
    match j, hj with
    | 0, hj => show va_T .int (ad 1000) _ _ _ _ _; rw [ha0]; exact hT0 n f hj
    | 1, hj => show va_T .int (ad 1001) _ _ _ _ _; rw [ha1]; exact hT1 n f hj
    | 2, hj => show va_T .int (ad 1002) _ _ _ _ _; rw [ha2]; exact hT2 n f hj
    | j + 3, hj => simp [ec_xt] at hj
  have hZz : ex_Z ad (fun q => s.heap.size ≤ q) s s.heap := by
    intro Cn n dd j hj
    unfold ec_zs at hj
    simp only [List.mem_cons, Prod.mk.injEq, List.not_mem_nil, or_false] at hj
    rcases hj with ⟨rfl, rfl, rfl, rfl⟩ | ⟨rfl, rfl, rfl, rfl⟩ | ⟨rfl, rfl, rfl, rfl⟩
    · show va_Z _ _ _ (.ref (ad 1000)) _ _ _; rw [ha0]; exact hZ0
    · show va_Z _ _ _ (.ref (ad 1001)) _ _ _; rw [ha1]; exact hZ1
    · show va_Z _ _ _ (.ref (ad 1002)) _ _ _; rw [ha2]; exact hZ2
  have hA : ∀ x : Nat, s.heap.size ≤ x → (fun q : Nat => s.heap.size ≤ q) x := fun _ h => h
  have C : ex_Cx ec_xt p room_1 s m #[Value.ref b] meth c D ad ca 0 4 9 316 (fun q => s.heap.size ≤ q) code (some .boolean) RL :=
    ⟨hx, hb, hml, hown, htb, hr, hlocks, ⟨fun i j hi => absurd hi (Nat.not_lt_zero i), fun k hk => absurd hk (Nat.not_lt_zero k)⟩, hK, hXx, hZz, fun q h => (by
      rcases h with ⟨k, hk, -⟩ | h
      · exact absurd hk (Nat.not_lt_zero k)
      · exact h), by decide, by decide, fun _ _ h => h, hNw⟩
  have hl := lv_entry ([.ref b]) (n := 4) (Nat.le_of_ble_eq_true rfl)
  rw [lg_entry_eq]
  have key : ex_T p l e room_1 s m #[Value.ref b] below meth c D ad ca 0 4 (fun q => s.heap.size ≤ q) 0 0 (lw_Z below #[Value.ref b] s) 0 [some (.ref 1003), none, none, none] [] [] := by
    refine ex_s_new2 C dL_law_0 hA rfl rfl rfl (by decide) rfl (T := TX9) (ty := tyX9) (N := 10) (fs := [.null, .null, .null, .null, .null, .null, .null, .int 0, .int 0, .int 0]) (ci := 9) (Cn := RX9) rfl (ec_in (i := 72) (by decide +kernel) rfl) (ec_in (i := 73) (by decide +kernel) rfl) (ec_in (i := 58) (by decide +kernel) rfl) tyX9_ok (by decide +kernel) rfl ⟨by decide, by decide⟩ (fun q0 C1 => ?_)
    refine ex_s_dup C1 rfl dL_law_3 ?_
    refine ex_s_special2 (as := []) (r := [.ref 0]) (n := 1) C1 dL_law_4 rfl rfl rfl (by decide) ⟨by decide, by decide⟩ ⟨yX9_init, cX9_init, 1, 3, 61, by decide, by decide, mn_X9_init l, ec_in (i := 76) (by decide +kernel) rfl, ec_in (i := 58) (by decide +kernel) rfl, by decide, Or.inl (ec_in (i := 74) (by decide +kernel) rfl), rfl, ec_in (i := 75) (by decide +kernel) rfl, by decide, by decide +kernel⟩ rfl (Nat.le_of_ble_eq_true rfl) (ini_x_ok (fun cs' => cs' = ini_x) rfl) (fun cs1 ad1 hq1 hag1 C2 => ?_)
    subst hq1
    refine ex_s_astore_n (x := 0) C2 dL_law_7 ⟨Nat.le_of_ble_eq_true rfl, rfl⟩ ?_
    refine ex_s_new2 C2 dL_law_8 hA rfl rfl rfl (by decide) rfl (T := TX10) (ty := tyX10) (N := 57) (fs := [.int 0, .null, .null, .null, .int 0, .null, .null, .null, .null, .int 0, .null, .null, .null, .null, .null, .null, .int 0, .null, .null, .null, .null, .null, .null, .null, .null, .null, .null, .null, .null, .int 0, .int 0, .int 0, .int 0, .int 0, .int 0, .null, .null, .null, .null, .int 0, .int 0, .null, .null, .null, .null, .int 0, .null, .null, .null, .int 0, .int 0, .int 0, .int 0, .null, .null, .null, .int 0]) (ci := 10) (Cn := RX10) rfl (ec_in (i := 1099) (by decide +kernel) rfl) (ec_in (i := 1100) (by decide +kernel) rfl) (ec_in (i := 68) (by decide +kernel) rfl) tyX10_ok (by decide +kernel) rfl ⟨by decide, by decide⟩ (fun q1 C3 => ?_)
    refine ex_s_dup C3 rfl dL_law_11 ?_
    refine ex_s_special2 (as := []) (r := [.ref 76]) (n := 1) C3 dL_law_12 rfl rfl rfl (by decide) ⟨by decide, by decide⟩ ⟨yX10_init, cX10_init, 1, 1, 20, by decide, by decide, mn_X10_init l, ec_in (i := 1103) (by decide +kernel) rfl, ec_in (i := 68) (by decide +kernel) rfl, by decide, Or.inl (ec_in (i := 1101) (by decide +kernel) rfl), rfl, ec_in (i := 1102) (by decide +kernel) rfl, by decide, by decide +kernel⟩ rfl (Nat.le_of_ble_eq_true rfl) (ini_m_ok (fun cs' => cs' = ini_cs) rfl) (fun cs2 ad2 hq2 hag2 C4 => ?_)
    subst hq2
    have hb2 : ad2 1003 = b := by
      rw [hag2 1003 (Or.inr (by decide))]
      show ex_ext ad1 76 q1 1003 = b
      unfold ex_ext
      rw [if_neg (by decide), hag1 1003 (Or.inr (by decide))]
      show ex_ext ad 0 q0 1003 = b
      unfold ex_ext
      rw [if_neg (by decide)]
      exact ha3
    have C5 : ex_Cx (ec_xt ++ [(L, xs)]) p room_1 s m #[Value.ref b] meth c D ad2 ca 116 4 9 316 (fun q => s.heap.size ≤ q) code (some .boolean) RL := by
      obtain ⟨g1, g2, g3, g4, g5, g6, g7, g8, g9, g10, g11, g12, g13, g14, g15, g16⟩ := C4
      refine ⟨g1, g2, g3, g4, g5, g6, g7, g8, g9, fun j n f hj => ?_, g11, g12, g13, g14, fun j q hq => ?_, g16⟩
      · by_cases h3 : j < 3
        · rw [List.getElem?_append_left h3] at hj
          exact g10 j n f hj
        · rw [List.getElem?_append_right (by show 3 ≤ j; omega)] at hj
          have hz : j - 3 < 1 := (List.getElem?_eq_some_iff.mp hj).1
          have hj3 : j = 3 := by omega
          subst hj3
          cases hj
          obtain ⟨scr, q1', q2', q3', q4', q5'⟩ := hX
          show va_T .int (ad2 1003) L _ _ _ _
          rw [hb2]
          exact ⟨scr, q1', q2', q3', by rw [q4']; exact Nat.le_refl _, by rw [q4'] <;> rfl, q5', Nat.not_le.mpr hbl⟩
      · have hl3 : j < 3 := (List.getElem?_eq_some_iff.mp hq).1
        rw [List.getElem?_append_left hl3]
        exact hq
    refine ex_s_astore_n (x := 76) C4 dL_law_15 ⟨Nat.le_of_ble_eq_true rfl, rfl⟩ ?_
    refine ex_s_iconst C4 dL_law_16 ?_
    refine ex_s_istore_n (x := 0) C4 dL_law_17 ⟨Nat.le_of_ble_eq_true rfl, rfl⟩ ?_
    exact law_go hL C5 2560 0 ini_cs (by decide) (by decide) (by decide) ini_hk ini_R
  have k2 := key _ s.heap [] ⟨rfl, ⟨hl.1, hl.2.1, Nat.le_refl _, fun i v hi => ?_⟩, fun k q h => (by simp [ex_w] at h), va_S.rf⟩
  · exact k2
  · match i, hi with
    | 0, hi =>
      cases hi
      show _ = some (Slot.val (.ref (ad 1003)))
      rw [ha3]
      exact hl.2.2 (0, .ref b) List.mem_cons_self
    | 1, hi => cases hi
    | 2, hi => cases hi
    | 3, hi => cases hi
    | i + 4, hi => simp at hi

theorem ba_X10_worked : ec_al [(1558, Cond.code yX10_worked cX10_worked 2 (some .int)), (68, Cond.initialized yX10_worked.cls), (1556, Cond.instanceMethod yX10_worked), (1557, Cond.selects yX10_worked.cls yX10_worked yX10_worked), (1282, Cond.methodLink RX10 160 yX10_finding), (1559, Cond.methodLink RX10 295 yX10_tooMuch)] := ec_alk (by decide +kernel)
theorem bw_X10_worked : ec_cw yX10_worked cX10_worked 2 (some .int) := ⟨ba_X10_worked.1, ba_X10_worked.2.1, nc_RX10⟩
theorem bv_X10_worked : Cond.instanceMethod yX10_worked ∈ ec_tb ∧ Cond.selects yX10_worked.cls yX10_worked yX10_worked ∈ ec_tb := ⟨ba_X10_worked.2.2.1, ba_X10_worked.2.2.2.1⟩
theorem bp_X10_worked : (parseMethodDescriptor yX10_worked.desc).map (fun d => d.parameters.length) = some 1 := by decide +kernel
theorem bk_X10_worked (l : Launch) : ∀ (ix n : Nat) (rc : Option Nat) (sp : ex_S), (be_X10_worked ix).map (fun q => (q.1, q.2.1, ab_sp ab_hd q.2.2)) = some (n, rc, sp) → ex_cok l RX10 1 25 ix n rc sp := by
  intro ix n rc sp h
  obtain ⟨l0, h2, rfl⟩ := ab_dmk h
  clear h
  unfold be_X10_worked at h2
  split at h2
  · cases h2; exact ec_cV (bm_X10_finding l) bw_X10_finding bv_X10_finding (by decide) (by decide) (Or.inl ba_X10_worked.2.2.2.2.1) (T := TX10) (N := 57) rfl (by decide) bp_X10_finding
  · cases h2; exact ec_cV (bm_X10_tooMuch l) bw_X10_tooMuch bv_X10_tooMuch (by decide) (by decide) (Or.inl ba_X10_worked.2.2.2.2.2.1) (T := TX10) (N := 57) rfl (by decide) bp_X10_tooMuch
  · cases h2
theorem bj_X10_worked (l : Launch) : ex_ok l 1 25 bx_X10_worked := ec_okp fo_X10 co_X10 so_X10 (bk_X10_worked l)
theorem bm_X10_worked (l : Launch) : ex_Met l yX10_worked cX10_worked 2 (some .int) 1 25 (ab_sp ab_hd bc_X10_worked) := ab_met (by decide) pn_RX10 rfl (bj_X10_worked l) bd_X10_worked ab_hcm ab_xk bz_X10_worked
theorem ba_X10_delay : ec_al [(1566, Cond.code yX10_delay cX10_delay 3 (some .int)), (68, Cond.initialized yX10_delay.cls), (1564, Cond.instanceMethod yX10_delay), (1565, Cond.selects yX10_delay.cls yX10_delay yX10_delay), (1303, Cond.methodLink RX10 171 yX10_isIn), (1282, Cond.methodLink RX10 160 yX10_finding)] := ec_alk (by decide +kernel)
theorem bw_X10_delay : ec_cw yX10_delay cX10_delay 3 (some .int) := ⟨ba_X10_delay.1, ba_X10_delay.2.1, nc_RX10⟩
theorem bv_X10_delay : Cond.instanceMethod yX10_delay ∈ ec_tb ∧ Cond.selects yX10_delay.cls yX10_delay yX10_delay ∈ ec_tb := ⟨ba_X10_delay.2.2.1, ba_X10_delay.2.2.2.1⟩
theorem bp_X10_delay : (parseMethodDescriptor yX10_delay.desc).map (fun d => d.parameters.length) = some 1 := by decide +kernel
theorem bk_X10_delay (l : Launch) : ∀ (ix n : Nat) (rc : Option Nat) (sp : ex_S), (be_X10_delay ix).map (fun q => (q.1, q.2.1, ab_sp ab_hd q.2.2)) = some (n, rc, sp) → ex_cok l RX10 1 22 ix n rc sp := by
  intro ix n rc sp h
  obtain ⟨l0, h2, rfl⟩ := ab_dmk h
  clear h
  unfold be_X10_delay at h2
  split at h2
  · cases h2; exact ec_cS (bm_X10_isIn l) bw_X10_isIn bv_X10_isIn (by decide) (by decide) (Or.inl ba_X10_delay.2.2.2.2.1) bp_X10_isIn
  · cases h2; exact ec_cV (bm_X10_finding l) bw_X10_finding bv_X10_finding (by decide) (by decide) (Or.inl ba_X10_delay.2.2.2.2.2.1) (T := TX10) (N := 57) rfl (by decide) bp_X10_finding
  · cases h2
theorem bj_X10_delay (l : Launch) : ex_ok l 1 22 bx_X10_delay := ec_okp fo_X10 co_X10 so_X10 (bk_X10_delay l)
theorem bm_X10_delay (l : Launch) : ex_Met l yX10_delay cX10_delay 3 (some .int) 1 22 (ab_sp ab_hd bc_X10_delay) := ab_met (by decide) pn_RX10 rfl (bj_X10_delay l) bd_X10_delay ab_hcm ab_xk bz_X10_delay
theorem ba_X10_known : ec_al [(1570, Cond.code yX10_known cX10_known 5 (some .int)), (68, Cond.initialized yX10_known.cls), (1568, Cond.instanceMethod yX10_known), (1569, Cond.selects yX10_known.cls yX10_known yX10_known), (1303, Cond.methodLink RX10 171 yX10_isIn), (1282, Cond.methodLink RX10 160 yX10_finding)] := ec_alk (by decide +kernel)
theorem bw_X10_known : ec_cw yX10_known cX10_known 5 (some .int) := ⟨ba_X10_known.1, ba_X10_known.2.1, nc_RX10⟩
theorem bv_X10_known : Cond.instanceMethod yX10_known ∈ ec_tb ∧ Cond.selects yX10_known.cls yX10_known yX10_known ∈ ec_tb := ⟨ba_X10_known.2.2.1, ba_X10_known.2.2.2.1⟩
theorem bp_X10_known : (parseMethodDescriptor yX10_known.desc).map (fun d => d.parameters.length) = some 2 := by decide +kernel
theorem bk_X10_known (l : Launch) : ∀ (ix n : Nat) (rc : Option Nat) (sp : ex_S), (be_X10_known ix).map (fun q => (q.1, q.2.1, ab_sp ab_hd q.2.2)) = some (n, rc, sp) → ex_cok l RX10 1 22 ix n rc sp := by
  intro ix n rc sp h
  obtain ⟨l0, h2, rfl⟩ := ab_dmk h
  clear h
  unfold be_X10_known at h2
  split at h2
  · cases h2; exact ec_cS (bm_X10_isIn l) bw_X10_isIn bv_X10_isIn (by decide) (by decide) (Or.inl ba_X10_known.2.2.2.2.1) bp_X10_isIn
  · cases h2; exact ec_cV (bm_X10_finding l) bw_X10_finding bv_X10_finding (by decide) (by decide) (Or.inl ba_X10_known.2.2.2.2.2.1) (T := TX10) (N := 57) rfl (by decide) bp_X10_finding
  · cases h2
theorem bj_X10_known (l : Launch) : ex_ok l 1 22 bx_X10_known := ec_okp fo_X10 co_X10 so_X10 (bk_X10_known l)
theorem dX10_known_0 : decode cX10_known 0 = .ok (.iload_n 1, 1) := by decide +kernel
theorem dX10_known_1 : decode cX10_known 1 = .ok (.iconst 0, 1) := by decide +kernel
theorem dX10_known_2 : decode cX10_known 2 = .ok (.iconst 3, 1) := by decide +kernel
theorem dX10_known_3 : decode cX10_known 3 = .ok (.invokestatic 171, 3) := by decide +kernel
theorem dX10_known_6 : decode cX10_known 6 = .ok (.ifCond .eq 14, 3) := by decide +kernel
theorem dX10_known_9 : decode cX10_known 9 = .ok (.iload_n 2, 1) := by decide +kernel
theorem dX10_known_10 : decode cX10_known 10 = .ok (.iconst 0, 1) := by decide +kernel
theorem dX10_known_11 : decode cX10_known 11 = .ok (.sipush 4000, 3) := by decide +kernel
theorem dX10_known_14 : decode cX10_known 14 = .ok (.invokestatic 171, 3) := by decide +kernel
theorem dX10_known_17 : decode cX10_known 17 = .ok (.ifCond .ne 9, 3) := by decide +kernel
theorem dX10_known_20 : decode cX10_known 20 = .ok (.aload_n 0, 1) := by decide +kernel
theorem dX10_known_21 : decode cX10_known 21 = .ok (.iconst 1, 1) := by decide +kernel
theorem dX10_known_22 : decode cX10_known 22 = .ok (.invokevirtual 160, 3) := by decide +kernel
theorem dX10_known_25 : decode cX10_known 25 = .ok (.ireturn, 1) := by decide +kernel
theorem dX10_known_26 : decode cX10_known 26 = .ok (.iconst (-1), 1) := by decide +kernel
theorem dX10_known_27 : decode cX10_known 27 = .ok (.istore_n 3, 1) := by decide +kernel
theorem dX10_known_28 : decode cX10_known 28 = .ok (.iconst 0, 1) := by decide +kernel
theorem dX10_known_29 : decode cX10_known 29 = .ok (.istore 4, 2) := by decide +kernel
theorem dX10_known_31 : decode cX10_known 31 = .ok (.iload 4, 2) := by decide +kernel
theorem dX10_known_33 : decode cX10_known 33 = .ok (.aload_n 0, 1) := by decide +kernel
theorem dX10_known_34 : decode cX10_known 34 = .ok (.getfield 289, 3) := by decide +kernel
theorem dX10_known_37 : decode cX10_known 37 = .ok (.if_icmp .ge 38, 3) := by decide +kernel
theorem dX10_known_40 : decode cX10_known 40 = .ok (.aload_n 0, 1) := by decide +kernel
theorem dX10_known_41 : decode cX10_known 41 = .ok (.getfield 110, 3) := by decide +kernel
theorem dX10_known_44 : decode cX10_known 44 = .ok (.iload 4, 2) := by decide +kernel
theorem dX10_known_46 : decode cX10_known 46 = .ok (.iaload, 1) := by decide +kernel
theorem dX10_known_47 : decode cX10_known 47 = .ok (.iload_n 1, 1) := by decide +kernel
theorem dX10_known_48 : decode cX10_known 48 = .ok (.if_icmp .ne 19, 3) := by decide +kernel
theorem dX10_known_51 : decode cX10_known 51 = .ok (.aload_n 0, 1) := by decide +kernel
theorem dX10_known_52 : decode cX10_known 52 = .ok (.getfield 119, 3) := by decide +kernel
theorem dX10_known_55 : decode cX10_known 55 = .ok (.iload 4, 2) := by decide +kernel
theorem dX10_known_57 : decode cX10_known 57 = .ok (.iaload, 1) := by decide +kernel
theorem dX10_known_58 : decode cX10_known 58 = .ok (.iload_n 2, 1) := by decide +kernel
theorem dX10_known_59 : decode cX10_known 59 = .ok (.if_icmp .gt 8, 3) := by decide +kernel
theorem dX10_known_62 : decode cX10_known 62 = .ok (.iload 4, 2) := by decide +kernel
theorem dX10_known_64 : decode cX10_known 64 = .ok (.goto 4, 3) := by decide +kernel
theorem dX10_known_67 : decode cX10_known 67 = .ok (.iload_n 3, 1) := by decide +kernel
theorem dX10_known_68 : decode cX10_known 68 = .ok (.istore_n 3, 1) := by decide +kernel
theorem dX10_known_69 : decode cX10_known 69 = .ok (.iinc 4 1, 3) := by decide +kernel
theorem dX10_known_72 : decode cX10_known 72 = .ok (.goto (-41), 3) := by decide +kernel
theorem dX10_known_75 : decode cX10_known 75 = .ok (.iload_n 3, 1) := by decide +kernel
theorem dX10_known_76 : decode cX10_known 76 = .ok (.ifCond .ge 11, 3) := by decide +kernel
theorem dX10_known_79 : decode cX10_known 79 = .ok (.aload_n 0, 1) := by decide +kernel
theorem dX10_known_80 : decode cX10_known 80 = .ok (.iconst 2, 1) := by decide +kernel
theorem dX10_known_81 : decode cX10_known 81 = .ok (.invokevirtual 160, 3) := by decide +kernel
theorem dX10_known_84 : decode cX10_known 84 = .ok (.goto 4, 3) := by decide +kernel
theorem dX10_known_87 : decode cX10_known 87 = .ok (.iload_n 3, 1) := by decide +kernel
theorem dX10_known_88 : decode cX10_known 88 = .ok (.ireturn, 1) := by decide +kernel
def kk_J (o : Nat → Int) (cs0 : ex_C) : Nat → ex_L → ex_V → ex_C → Prop := fun n lv st cs => st = [] ∧ ab_hk ab_hd cs ∧ ab_fr [(114, some 1), (114, some 2)] cs0 cs ∧ ∃ s t b r : Int32, lv = [some (.ref 76), some (.int s), some (.int t), some (.int b), some (.int r)] ∧ s.toInt = o 1 ∧ t.toInt = o 2 ∧ (0 ≤ s.toInt ∧ s.toInt ≤ 3) ∧ (0 ≤ t.toInt ∧ t.toInt ≤ 4000) ∧ (0 ≤ r.toInt ∧ r.toInt ≤ gh_a cs 76 40) ∧ b.toInt = kn_l (gh_a cs 106) (gh_a cs 109) (o 1) (o 2) r.toInt.toNat ∧ o 900000001 = kn_l (gh_a cs 106) (gh_a cs 109) (o 1) (o 2) (min (gh_a cs 76 40).toNat 40) ∧ (n : Int) = 41 - r.toInt
def kk_I (o : Nat → Int) (cs0 : ex_C) (pc : Nat) : Option (Nat → ex_L → ex_V → ex_C → Prop) := if pc = 31 then some (kk_J o cs0) else none
def kk_B (o : Nat → Int) (cs0 : ex_C) (n : Nat) : Nat → Option (ex_L → ex_V → ex_C → Prop) := fun pc' => (ab_Ie ab_hd [(114, some 1), (114, some 2)] o cs0 be_X10_known_xo (kk_I o cs0) pc').map (fun J' lv st cs => ∃ n', n' < n ∧ J' n' lv st cs)
theorem kk_e {W : ab_W} {o : Nat → Int} {cs : ex_C} {pc : Nat} (h : (pc == 31 || pc == 75) = false) : ab_Ie ab_hd W o cs be_X10_known_xo (kk_I o cs) pc = none := by
  simp only [Bool.or_eq_false_iff, beq_eq_false_iff_ne, ne_eq] at h
  unfold ab_Ie be_X10_known_xo kk_I
  rw [List.find?_cons_of_neg (by simp only [beq_iff_eq]; omega), List.find?_nil]
  dsimp only
  rw [if_neg h.1]
theorem kk_Bn {o : Nat → Int} {cs0 : ex_C} {n pc : Nat} (h : (pc == 31 || pc == 75) = false) : kk_B o cs0 n pc = none := by
  unfold kk_B
  rw [kk_e h]
  rfl
theorem kk_B31 {o : Nat → Int} {cs0 : ex_C} {n : Nat} : kk_B o cs0 n 31 = some (fun lv st cs => ∃ n', n' < n ∧ kk_J o cs0 n' lv st cs) := rfl
theorem kk_B75 {o : Nat → Int} {cs0 : ex_C} {n : Nat} : kk_B o cs0 n 75 = some (fun lv st cs => ∃ n', n' < n ∧ (n' = 0 ∧ ab_G ab_hd [(114, some 1), (114, some 2)] o cs0 [some (.inl 76), some (.inr (.inl (0, 3, none, some (1, 0)))), some (.inr (.inl (0, 4000, none, some (2, 0)))), some (.inr (.inl (-1, 39, none, some (900000001, 0)))), none] [] [] lv st cs)) := rfl
set_option maxRecDepth 100000 in
set_option maxHeartbeats 4000000 in
theorem kk_w31 {o : Nat → Int} {cs0 cs : ex_C} {fs : List Value} {f g : Nat → Int32} {s t b r rd : Int32} {n : Nat} {Q : ex_Q} (hk : ab_hk ab_hd cs) (hw : ab_fr [(114, some 1), (114, some 2)] cs0 cs) (h76 : cs[76]? = some (.inr (10, fs))) (hs_readings : fs[40]? = some (.int rd)) (hs_sensor : fs[41]? = some (.ref 106)) (hs_heardAt : fs[44]? = some (.ref 109)) (hf : cs[106]? = some (.inl (0, 40, .inl f))) (hg : cs[109]? = some (.inl (0, 40, .inl g))) (hr1 : 0 ≤ rd.toInt) (hr2 : rd.toInt ≤ 40) (es : s.toInt = o 1) (et : t.toInt = o 2) (bs : 0 ≤ s.toInt ∧ s.toInt ≤ 3) (bt : 0 ≤ t.toInt ∧ t.toInt ≤ 4000) (br : 0 ≤ r.toInt ∧ r.toInt ≤ gh_a cs 76 40) (eb : b.toInt = kn_l (gh_a cs 106) (gh_a cs 109) (o 1) (o 2) r.toInt.toNat) (hv : o 900000001 = kn_l (gh_a cs 106) (gh_a cs 109) (o 1) (o 2) (min (gh_a cs 76 40).toNat 40)) (hn : (n : Int) = 41 - r.toInt) : ex_wp ec_xt bx_X10_known cX10_known (some .int) (kk_B o cs0 n) Q 40 31 [some (.ref 76), some (.int s), some (.int t), some (.int b), some (.int r)] [] cs := by
  have z0 := hn_z0
  have eR : gh_a cs 76 40 = rd.toInt := gh_ao h76 hs_readings
  have br2 : r.toInt ≤ rd.toInt := by rw [← eR]; exact br.2
  have br1 := br.1
  have eF : gh_a cs 106 r.toInt.toNat = (f r.toNatClampNeg).toInt := gh_ai hf
  have eG : gh_a cs 109 r.toInt.toNat = (g r.toNatClampNeg).toInt := gh_ai hg
  refine wq_iload dX10_known_31 rfl rfl ?_
  refine go_wp (kk_Bn (by decide)) (wq_aload_n dX10_known_33 rfl rfl ?_)
  refine go_wp (kk_Bn (by decide)) (wq_getfield dX10_known_34 fe_X10_289 h76 hs_readings rfl ?_)
  refine go_wp (kk_Bn (by decide)) (wq_icmp_ge (t := 75) dX10_known_37 (by decide) rfl (fun q1 => ?_) (fun q1 => ?_))
  · have q1' : Int32.toInt r ≥ Int32.toInt rd := (ab_ige (x := r) (y := rd)).1 q1
    have em : min (gh_a cs 76 40).toNat 40 = r.toInt.toNat := by rw [eR]; omega
    have hb : o 900000001 = b.toInt := hv.trans (by rw [em]; exact eb.symm)
    have kb := kn_b (f := gh_a cs 106) (g := gh_a cs 109) (s := o 1) (t := o 2) r.toInt.toNat
    exact go_cut kk_B75 ⟨0, (by omega), rfl, ab_cl1 rfl (ab_cl1 (ab_c1t bs.1 bs.2 (by show s.toInt = o 1 + 0; omega)) (ab_cl1 (ab_c1t bt.1 bt.2 (by show t.toInt = o 2 + 0; omega)) (ab_cl1 (ab_c1t (by omega) (by omega) (by show b.toInt = o 900000001 + 0; omega)) (ab_cl1 ab_c1n ab_cl0)))), rfl, ab_cfn, hk, hw⟩
  · have q1' : Int32.toInt r < Int32.toInt rd := (ab_ige (x := r) (y := rd)).2 q1
    refine go_wp (kk_Bn (by decide)) (wq_aload_n dX10_known_40 rfl rfl ?_)
    refine go_wp (kk_Bn (by decide)) (wq_getfield dX10_known_41 fe_X10_110 h76 hs_sensor rfl ?_)
    refine go_wp (kk_Bn (by decide)) (wq_iload dX10_known_44 rfl rfl ?_)
    refine go_wp (kk_Bn (by decide)) (wq_iaload (v := (f r.toNatClampNeg)) dX10_known_46 (by decide) hf (hn_vp (by omega) (by omega)) rfl rfl ?_)
    refine go_wp (kk_Bn (by decide)) (wq_iload_n dX10_known_47 rfl rfl ?_)
    refine go_wp (kk_Bn (by decide)) (wq_icmp_ne (t := 67) dX10_known_48 (by decide) rfl (fun q2 => ?_) (fun q2 => ?_))
    · have q2' : Int32.toInt (f r.toNatClampNeg) ≠ Int32.toInt s := (ab_ieq (x := (f r.toNatClampNeg)) (y := s)).2 q2
      refine go_wp (kk_Bn (by decide)) (wq_iload_n dX10_known_67 rfl rfl ?_)
      refine go_wp (kk_Bn (by decide)) (wq_istore_n (lv' := [some (.ref 76), some (.int s), some (.int t), some (.int b), some (.int r)]) dX10_known_68 ⟨Nat.le_of_ble_eq_true rfl, rfl⟩ rfl rfl ?_)
      refine go_wp (kk_Bn (by decide)) (wq_iinc (v := (r + Int32.ofInt 1)) (lv' := [some (.ref 76), some (.int s), some (.int t), some (.int b), some (.int (r + Int32.ofInt 1))]) dX10_known_69 rfl ⟨Nat.le_of_ble_eq_true rfl, rfl⟩ rfl rfl rfl ?_)
      refine go_wp (kk_Bn (by decide)) (wq_goto (t := 31) dX10_known_72 (by decide) ?_)
      have hi := hn_inc (x := r) (by omega) (by omega)
      have em : (r.toInt + 1).toNat = r.toInt.toNat + 1 := by omega
      have kn := kn_no (f := gh_a cs 106) (g := gh_a cs 109) (s := o 1) (t := o 2) (r := r.toInt.toNat) (fun hh => (by have h3 := eF.symm.trans hh.1; have h4 := Int.le_trans (Int.le_of_eq eG.symm) hh.2; omega))
      have e2 : (r + Int32.ofInt 1).toInt.toNat = r.toInt.toNat + 1 := by rw [hi]; omega
      exact go_cut kk_B31 ⟨(40 - r.toInt).toNat, (by omega), rfl, hk, hw, _, _, _, _, rfl, es, et, bs, bt, ⟨by omega, by rw [eR]; omega⟩, (by rw [e2]; exact Eq.trans (by omega) kn.symm), hv, (by rw [hi]; omega)⟩
    · have q2' : Int32.toInt (f r.toNatClampNeg) = Int32.toInt s := (ab_ieq (x := (f r.toNatClampNeg)) (y := s)).1 q2
      refine go_wp (kk_Bn (by decide)) (wq_aload_n dX10_known_51 rfl rfl ?_)
      refine go_wp (kk_Bn (by decide)) (wq_getfield dX10_known_52 fe_X10_119 h76 hs_heardAt rfl ?_)
      refine go_wp (kk_Bn (by decide)) (wq_iload dX10_known_55 rfl rfl ?_)
      refine go_wp (kk_Bn (by decide)) (wq_iaload (v := (g r.toNatClampNeg)) dX10_known_57 (by decide) hg (hn_vp (by omega) (by omega)) rfl rfl ?_)
      refine go_wp (kk_Bn (by decide)) (wq_iload_n dX10_known_58 rfl rfl ?_)
      refine go_wp (kk_Bn (by decide)) (wq_icmp_gt (t := 67) dX10_known_59 (by decide) rfl (fun q3 => ?_) (fun q3 => ?_))
      · have q3' : Int32.toInt (g r.toNatClampNeg) > Int32.toInt t := (ab_igt (x := (g r.toNatClampNeg)) (y := t)).1 q3
        refine go_wp (kk_Bn (by decide)) (wq_iload_n dX10_known_67 rfl rfl ?_)
        refine go_wp (kk_Bn (by decide)) (wq_istore_n (lv' := [some (.ref 76), some (.int s), some (.int t), some (.int b), some (.int r)]) dX10_known_68 ⟨Nat.le_of_ble_eq_true rfl, rfl⟩ rfl rfl ?_)
        refine go_wp (kk_Bn (by decide)) (wq_iinc (v := (r + Int32.ofInt 1)) (lv' := [some (.ref 76), some (.int s), some (.int t), some (.int b), some (.int (r + Int32.ofInt 1))]) dX10_known_69 rfl ⟨Nat.le_of_ble_eq_true rfl, rfl⟩ rfl rfl rfl ?_)
        refine go_wp (kk_Bn (by decide)) (wq_goto (t := 31) dX10_known_72 (by decide) ?_)
        have hi := hn_inc (x := r) (by omega) (by omega)
        have em : (r.toInt + 1).toNat = r.toInt.toNat + 1 := by omega
        have kn := kn_no (f := gh_a cs 106) (g := gh_a cs 109) (s := o 1) (t := o 2) (r := r.toInt.toNat) (fun hh => (by have h3 := eF.symm.trans hh.1; have h4 := Int.le_trans (Int.le_of_eq eG.symm) hh.2; omega))
        have e2 : (r + Int32.ofInt 1).toInt.toNat = r.toInt.toNat + 1 := by rw [hi]; omega
        exact go_cut kk_B31 ⟨(40 - r.toInt).toNat, (by omega), rfl, hk, hw, _, _, _, _, rfl, es, et, bs, bt, ⟨by omega, by rw [eR]; omega⟩, (by rw [e2]; exact Eq.trans (by omega) kn.symm), hv, (by rw [hi]; omega)⟩
      · have q3' : Int32.toInt (g r.toNatClampNeg) ≤ Int32.toInt t := (ab_igt (x := (g r.toNatClampNeg)) (y := t)).2 q3
        refine go_wp (kk_Bn (by decide)) (wq_iload dX10_known_62 rfl rfl ?_)
        refine go_wp (kk_Bn (by decide)) (wq_goto (t := 68) dX10_known_64 (by decide) ?_)
        refine go_wp (kk_Bn (by decide)) (wq_istore_n (lv' := [some (.ref 76), some (.int s), some (.int t), some (.int r), some (.int r)]) dX10_known_68 ⟨Nat.le_of_ble_eq_true rfl, rfl⟩ rfl rfl ?_)
        refine go_wp (kk_Bn (by decide)) (wq_iinc (v := (r + Int32.ofInt 1)) (lv' := [some (.ref 76), some (.int s), some (.int t), some (.int r), some (.int (r + Int32.ofInt 1))]) dX10_known_69 rfl ⟨Nat.le_of_ble_eq_true rfl, rfl⟩ rfl rfl rfl ?_)
        refine go_wp (kk_Bn (by decide)) (wq_goto (t := 31) dX10_known_72 (by decide) ?_)
        have hi := hn_inc (x := r) (by omega) (by omega)
        have em : (r.toInt + 1).toNat = r.toInt.toNat + 1 := by omega
        have kn := kn_ye (f := gh_a cs 106) (g := gh_a cs 109) (s := o 1) (t := o 2) (r := r.toInt.toNat) ⟨eF.trans (by omega), Int.le_trans (Int.le_of_eq eG) (by omega)⟩
        have e2 : (r + Int32.ofInt 1).toInt.toNat = r.toInt.toNat + 1 := by rw [hi]; omega
        exact go_cut kk_B31 ⟨(40 - r.toInt).toNat, (by omega), rfl, hk, hw, _, _, _, _, rfl, es, et, bs, bt, ⟨by omega, by rw [eR]; omega⟩, (by rw [e2]; exact Eq.trans (by omega) kn.symm), hv, (by rw [hi]; omega)⟩
theorem kk_W : bc_X10_known.all (fun c => decide (c.2.2.1 = [(114, some 1), (114, some 2)])) = true := by decide +kernel
theorem kk_dom {W : ab_W} {o : Nat → Int} {cs : ex_C} : ∀ pc, [31, 75].contains pc = (ab_Ie ab_hd W o cs be_X10_known_xo (kk_I o cs) pc).isSome := by
  intro pc
  by_cases e31 : pc = 31
  · subst e31; rfl
  by_cases e75 : pc = 75
  · subst e75; rfl
  rw [kk_e (by simp [e31, e75])]
  simp [e31, e75]
set_option maxRecDepth 100000 in
theorem bm_X10_known (l : Launch) : ex_Met l yX10_known cX10_known 5 (some .int) 1 22 (ab_sp ab_hd bc_X10_known) := by
  intro D ad ca n sz av cs Q h
  refine ex_lmet (by decide) rfl (bj_X10_known l) D ad ca n sz av cs Q ?_
  obtain ⟨c, hc, hp, hk, hQ⟩ := h
  have hz := List.all_eq_true.mp bz_X10_known c hc
  have hW : c.2.2.1 = [(114, some 1), (114, some 2)] := of_decide_eq_true (List.all_eq_true.mp kk_W c hc)
  obtain ⟨ts, pre, W, ks⟩ := c
  dsimp only at hW
  subst hW
  refine ab_slo (by decide) bd_X10_known ab_hcm ab_xk hz hp hk hQ (kk_I (ab_oo (av.map some) cs) cs) kk_dom (fun q hq => ?_) (fun q hq lv cs' g => ?_) (fun pc J n lv st cs' hJ hP => ?_)
  · rcases List.mem_singleton.mp hq with rfl
    exact ⟨rfl, rfl⟩
  · rcases List.mem_singleton.mp hq with rfl
    obtain ⟨g0, -, -, gh, gw⟩ := g
    obtain ⟨v0, l1, rfl, h0, g1⟩ := ab_clu g0
    obtain ⟨v1, l2, rfl, ⟨s, rfl, bs, es⟩, g2⟩ := ab_clu g1
    obtain ⟨v2, l3, rfl, ⟨t, rfl, bt, et⟩, g3⟩ := ab_clu g2
    obtain ⟨v3, l4, rfl, ⟨b, rfl, bb, -⟩, g4⟩ := ab_clu g3
    obtain ⟨v4, l5, rfl, ⟨r, rfl, br, -⟩, g5⟩ := ab_clu g4
    have e5 := ab_cln g5
    subst e5
    cases h0
    have es' := es _ rfl
    have et' := et _ rfl
    dsimp only at bs bt bb br es' et'
    have hg0 := ab_oog (lv := av.map some) (cs := cs) 1 (ab_oo (av.map some) cs) cs' (by omega) (fun _ _ => rfl) (fun k hk j => gw k j (by
      have : k = 76 ∨ k = 106 ∨ k = 109 := by simpa [ab_gs] using hk
      rcases this with rfl | rfl | rfl <;> rfl))
    obtain ⟨fs, h76, -, hj⟩ := gh.obj (a := 76) (ci := 10) rfl
    obtain ⟨v, hrd, rd, rfl, hr1, hr2⟩ := hj 40 (.inr (0, 40)) rfl
    have eR : gh_a cs' 76 40 = rd.toInt := gh_ao h76 hrd
    refine ⟨_, 41, rfl, rfl, gh, gw, s, t, b, r, rfl, (by omega), (by omega), bs, bt, ⟨by omega, by rw [eR]; dsimp only at hr1; omega⟩, ?_, ?_, (by omega)⟩
    · rw [show r.toInt.toNat = 0 by omega]
      show b.toInt = -1
      omega
    · rw [show (900000001 : Nat) = 900000000 + 1 from rfl, ← hg0]
      rfl
  · unfold kk_I at hJ
    split at hJ
    · rename_i e
      subst e
      cases hJ
      obtain ⟨rfl, hk', hw', s, t, b, r, rfl, es, et, bs, bt, br, eb, hv, hn⟩ := hP
      obtain ⟨fs, h76, -, hj⟩ := hk'.obj (a := 76) (ci := 10) rfl
      obtain ⟨v, hrd, rd, rfl, hr1, hr2⟩ := hj 40 (.inr (0, 40)) rfl
      have hs1 : fs[41]? = some (.ref 106) := by
        obtain ⟨v, hv, hc⟩ := hj 41 (.inl 106) rfl
        cases hc
        exact hv
      have hs2 : fs[44]? = some (.ref 109) := by
        obtain ⟨v, hv, hc⟩ := hj 44 (.inl 109) rfl
        cases hc
        exact hv
      obtain ⟨f, hf, -⟩ := hk'.arr (a := 106) (t := 0) (n := 40) (m := 40) (lo := -2147483648) (hi := 2147483647) rfl (by decide)
      obtain ⟨g, hg, -⟩ := hk'.arr (a := 109) (t := 0) (n := 40) (m := 40) (lo := -2147483648) (hi := 2147483647) rfl (by decide)
      exact kk_w31 hk' hw' h76 hrd hs1 hs2 hf hg hr1 hr2 es et bs bt br eb hv hn
    · cases hJ
theorem ba_X10_mass : ec_al [(1574, Cond.code yX10_mass cX10_mass 4 (some .int)), (68, Cond.initialized yX10_mass.cls), (1572, Cond.instanceMethod yX10_mass), (1573, Cond.selects yX10_mass.cls yX10_mass yX10_mass), (1303, Cond.methodLink RX10 171 yX10_isIn), (1282, Cond.methodLink RX10 160 yX10_finding)] := ec_alk (by decide +kernel)
theorem bw_X10_mass : ec_cw yX10_mass cX10_mass 4 (some .int) := ⟨ba_X10_mass.1, ba_X10_mass.2.1, nc_RX10⟩
theorem bv_X10_mass : Cond.instanceMethod yX10_mass ∈ ec_tb ∧ Cond.selects yX10_mass.cls yX10_mass yX10_mass ∈ ec_tb := ⟨ba_X10_mass.2.2.1, ba_X10_mass.2.2.2.1⟩
theorem bp_X10_mass : (parseMethodDescriptor yX10_mass.desc).map (fun d => d.parameters.length) = some 2 := by decide +kernel
theorem bk_X10_mass (l : Launch) : ∀ (ix n : Nat) (rc : Option Nat) (sp : ex_S), (be_X10_mass ix).map (fun q => (q.1, q.2.1, ab_sp ab_hd q.2.2)) = some (n, rc, sp) → ex_cok l RX10 1 22 ix n rc sp := by
  intro ix n rc sp h
  obtain ⟨l0, h2, rfl⟩ := ab_dmk h
  clear h
  unfold be_X10_mass at h2
  split at h2
  · cases h2; exact ec_cS (bm_X10_isIn l) bw_X10_isIn bv_X10_isIn (by decide) (by decide) (Or.inl ba_X10_mass.2.2.2.2.1) bp_X10_isIn
  · cases h2; exact ec_cV (bm_X10_finding l) bw_X10_finding bv_X10_finding (by decide) (by decide) (Or.inl ba_X10_mass.2.2.2.2.2.1) (T := TX10) (N := 57) rfl (by decide) bp_X10_finding
  · cases h2
theorem bj_X10_mass (l : Launch) : ex_ok l 1 22 bx_X10_mass := ec_okp fo_X10 co_X10 so_X10 (bk_X10_mass l)
theorem bm_X10_mass (l : Launch) : ex_Met l yX10_mass cX10_mass 4 (some .int) 1 22 (ab_sp ab_hd bc_X10_mass) := ab_met (by decide) pn_RX10 rfl (bj_X10_mass l) bd_X10_mass ab_hcm ab_xk bz_X10_mass
theorem ba_X10_dock : ec_al [(1579, Cond.code yX10_dock cX10_dock 3 (some .int)), (68, Cond.initialized yX10_dock.cls), (1577, Cond.instanceMethod yX10_dock), (1578, Cond.selects yX10_dock.cls yX10_dock yX10_dock), (1303, Cond.methodLink RX10 171 yX10_isIn), (1282, Cond.methodLink RX10 160 yX10_finding)] := ec_alk (by decide +kernel)
theorem bw_X10_dock : ec_cw yX10_dock cX10_dock 3 (some .int) := ⟨ba_X10_dock.1, ba_X10_dock.2.1, nc_RX10⟩
theorem bv_X10_dock : Cond.instanceMethod yX10_dock ∈ ec_tb ∧ Cond.selects yX10_dock.cls yX10_dock yX10_dock ∈ ec_tb := ⟨ba_X10_dock.2.2.1, ba_X10_dock.2.2.2.1⟩
theorem bp_X10_dock : (parseMethodDescriptor yX10_dock.desc).map (fun d => d.parameters.length) = some 2 := by decide +kernel
theorem bk_X10_dock (l : Launch) : ∀ (ix n : Nat) (rc : Option Nat) (sp : ex_S), (be_X10_dock ix).map (fun q => (q.1, q.2.1, ab_sp ab_hd q.2.2)) = some (n, rc, sp) → ex_cok l RX10 1 22 ix n rc sp := by
  intro ix n rc sp h
  obtain ⟨l0, h2, rfl⟩ := ab_dmk h
  clear h
  unfold be_X10_dock at h2
  split at h2
  · cases h2; exact ec_cS (bm_X10_isIn l) bw_X10_isIn bv_X10_isIn (by decide) (by decide) (Or.inl ba_X10_dock.2.2.2.2.1) bp_X10_isIn
  · cases h2; exact ec_cV (bm_X10_finding l) bw_X10_finding bv_X10_finding (by decide) (by decide) (Or.inl ba_X10_dock.2.2.2.2.2.1) (T := TX10) (N := 57) rfl (by decide) bp_X10_finding
  · cases h2
theorem bj_X10_dock (l : Launch) : ex_ok l 1 22 bx_X10_dock := ec_okp fo_X10 co_X10 so_X10 (bk_X10_dock l)
theorem bm_X10_dock (l : Launch) : ex_Met l yX10_dock cX10_dock 3 (some .int) 1 22 (ab_sp ab_hd bc_X10_dock) := ab_met (by decide) pn_RX10 rfl (bj_X10_dock l) bd_X10_dock ab_hcm ab_xk bz_X10_dock
theorem ba_X10_undock : ec_al [(1583, Cond.code yX10_undock cX10_undock 2 (some .int)), (68, Cond.initialized yX10_undock.cls), (1581, Cond.instanceMethod yX10_undock), (1582, Cond.selects yX10_undock.cls yX10_undock yX10_undock), (1303, Cond.methodLink RX10 171 yX10_isIn), (1282, Cond.methodLink RX10 160 yX10_finding)] := ec_alk (by decide +kernel)
theorem bw_X10_undock : ec_cw yX10_undock cX10_undock 2 (some .int) := ⟨ba_X10_undock.1, ba_X10_undock.2.1, nc_RX10⟩
theorem bv_X10_undock : Cond.instanceMethod yX10_undock ∈ ec_tb ∧ Cond.selects yX10_undock.cls yX10_undock yX10_undock ∈ ec_tb := ⟨ba_X10_undock.2.2.1, ba_X10_undock.2.2.2.1⟩
theorem bp_X10_undock : (parseMethodDescriptor yX10_undock.desc).map (fun d => d.parameters.length) = some 1 := by decide +kernel
theorem bk_X10_undock (l : Launch) : ∀ (ix n : Nat) (rc : Option Nat) (sp : ex_S), (be_X10_undock ix).map (fun q => (q.1, q.2.1, ab_sp ab_hd q.2.2)) = some (n, rc, sp) → ex_cok l RX10 1 22 ix n rc sp := by
  intro ix n rc sp h
  obtain ⟨l0, h2, rfl⟩ := ab_dmk h
  clear h
  unfold be_X10_undock at h2
  split at h2
  · cases h2; exact ec_cS (bm_X10_isIn l) bw_X10_isIn bv_X10_isIn (by decide) (by decide) (Or.inl ba_X10_undock.2.2.2.2.1) bp_X10_isIn
  · cases h2; exact ec_cV (bm_X10_finding l) bw_X10_finding bv_X10_finding (by decide) (by decide) (Or.inl ba_X10_undock.2.2.2.2.2.1) (T := TX10) (N := 57) rfl (by decide) bp_X10_finding
  · cases h2
theorem bj_X10_undock (l : Launch) : ex_ok l 1 22 bx_X10_undock := ec_okp fo_X10 co_X10 so_X10 (bk_X10_undock l)
theorem bm_X10_undock (l : Launch) : ex_Met l yX10_undock cX10_undock 2 (some .int) 1 22 (ab_sp ab_hd bc_X10_undock) := ab_met (by decide) pn_RX10 rfl (bj_X10_undock l) bd_X10_undock ab_hcm ab_xk bz_X10_undock
theorem ba_X10_tell : ec_al [(1587, Cond.code yX10_tell cX10_tell 2 (some .int)), (68, Cond.initialized yX10_tell.cls), (1585, Cond.instanceMethod yX10_tell), (1586, Cond.selects yX10_tell.cls yX10_tell yX10_tell), (1282, Cond.methodLink RX10 160 yX10_finding)] := ec_alk (by decide +kernel)
theorem bw_X10_tell : ec_cw yX10_tell cX10_tell 2 (some .int) := ⟨ba_X10_tell.1, ba_X10_tell.2.1, nc_RX10⟩
theorem bv_X10_tell : Cond.instanceMethod yX10_tell ∈ ec_tb ∧ Cond.selects yX10_tell.cls yX10_tell yX10_tell ∈ ec_tb := ⟨ba_X10_tell.2.2.1, ba_X10_tell.2.2.2.1⟩
theorem bp_X10_tell : (parseMethodDescriptor yX10_tell.desc).map (fun d => d.parameters.length) = some 1 := by decide +kernel
theorem bk_X10_tell (l : Launch) : ∀ (ix n : Nat) (rc : Option Nat) (sp : ex_S), (be_X10_tell ix).map (fun q => (q.1, q.2.1, ab_sp ab_hd q.2.2)) = some (n, rc, sp) → ex_cok l RX10 1 21 ix n rc sp := by
  intro ix n rc sp h
  obtain ⟨l0, h2, rfl⟩ := ab_dmk h
  clear h
  unfold be_X10_tell at h2
  split at h2
  · cases h2; exact ec_cV (bm_X10_finding l) bw_X10_finding bv_X10_finding (by decide) (by decide) (Or.inl ba_X10_tell.2.2.2.2.1) (T := TX10) (N := 57) rfl (by decide) bp_X10_finding
  · cases h2
theorem bj_X10_tell (l : Launch) : ex_ok l 1 21 bx_X10_tell := ec_okp fo_X10 co_X10 so_X10 (bk_X10_tell l)
theorem bm_X10_tell (l : Launch) : ex_Met l yX10_tell cX10_tell 2 (some .int) 1 21 (ab_sp ab_hd bc_X10_tell) := ab_met (by decide) pn_RX10 rfl (bj_X10_tell l) bd_X10_tell ab_hcm ab_xk bz_X10_tell
theorem ba_X10_check : ec_al [(1591, Cond.code yX10_check cX10_check 7 (some .int)), (68, Cond.initialized yX10_check.cls), (1589, Cond.instanceMethod yX10_check), (1590, Cond.selects yX10_check.cls yX10_check yX10_check), (1291, Cond.methodLink RX10 164 yX10_isModule), (1303, Cond.methodLink RX10 171 yX10_isIn), (1282, Cond.methodLink RX10 160 yX10_finding), (1512, Cond.methodLink RX10 273 yX10_layAside), (1451, Cond.methodLink RX10 262 yX10_tick)] := ec_alk (by decide +kernel)
theorem bw_X10_check : ec_cw yX10_check cX10_check 7 (some .int) := ⟨ba_X10_check.1, ba_X10_check.2.1, nc_RX10⟩
theorem bv_X10_check : Cond.instanceMethod yX10_check ∈ ec_tb ∧ Cond.selects yX10_check.cls yX10_check yX10_check ∈ ec_tb := ⟨ba_X10_check.2.2.1, ba_X10_check.2.2.2.1⟩
theorem bp_X10_check : (parseMethodDescriptor yX10_check.desc).map (fun d => d.parameters.length) = some 2 := by decide +kernel
theorem bk_X10_check (l : Launch) : ∀ (ix n : Nat) (rc : Option Nat) (sp : ex_S), (be_X10_check ix).map (fun q => (q.1, q.2.1, ab_sp ab_hd q.2.2)) = some (n, rc, sp) → ex_cok l RX10 5 112 ix n rc sp := by
  intro ix n rc sp h
  obtain ⟨l0, h2, rfl⟩ := ab_dmk h
  clear h
  unfold be_X10_check at h2
  split at h2
  · cases h2; exact ec_cV (bm_X10_isModule l) bw_X10_isModule bv_X10_isModule (by decide) (by decide) (Or.inl ba_X10_check.2.2.2.2.1) (T := TX10) (N := 57) rfl (by decide) bp_X10_isModule
  · cases h2; exact ec_cS (bm_X10_isIn l) bw_X10_isIn bv_X10_isIn (by decide) (by decide) (Or.inl ba_X10_check.2.2.2.2.2.1) bp_X10_isIn
  · cases h2; exact ec_cV (bm_X10_finding l) bw_X10_finding bv_X10_finding (by decide) (by decide) (Or.inl ba_X10_check.2.2.2.2.2.2.1) (T := TX10) (N := 57) rfl (by decide) bp_X10_finding
  · cases h2; exact ec_cV (bm_X10_layAside l) bw_X10_layAside bv_X10_layAside (by decide) (by decide) (Or.inl ba_X10_check.2.2.2.2.2.2.2.1) (T := TX10) (N := 57) rfl (by decide) bp_X10_layAside
  · cases h2; exact ec_cV (bm_X10_tick l) bw_X10_tick bv_X10_tick (by decide) (by decide) (Or.inl ba_X10_check.2.2.2.2.2.2.2.2.1) (T := TX10) (N := 57) rfl (by decide) bp_X10_tick
  · cases h2
theorem bj_X10_check (l : Launch) : ex_ok l 5 112 bx_X10_check := ec_okp fo_X10 co_X10 so_X10 (bk_X10_check l)
theorem bm_X10_check (l : Launch) : ex_Met l yX10_check cX10_check 7 (some .int) 5 112 (ab_sp ab_hd bc_X10_check) := ab_met (by decide) pn_RX10 rfl (bj_X10_check l) bd_X10_check ab_hcm ab_xk bz_X10_check
theorem ba_X10_count : ec_al [(1595, Cond.code yX10_count cX10_count 4 (some .int)), (68, Cond.initialized yX10_count.cls), (1593, Cond.instanceMethod yX10_count), (1594, Cond.selects yX10_count.cls yX10_count yX10_count), (1282, Cond.methodLink RX10 160 yX10_finding)] := ec_alk (by decide +kernel)
theorem bw_X10_count : ec_cw yX10_count cX10_count 4 (some .int) := ⟨ba_X10_count.1, ba_X10_count.2.1, nc_RX10⟩
theorem bv_X10_count : Cond.instanceMethod yX10_count ∈ ec_tb ∧ Cond.selects yX10_count.cls yX10_count yX10_count ∈ ec_tb := ⟨ba_X10_count.2.2.1, ba_X10_count.2.2.2.1⟩
theorem bp_X10_count : (parseMethodDescriptor yX10_count.desc).map (fun d => d.parameters.length) = some 1 := by decide +kernel
theorem bk_X10_count (l : Launch) : ∀ (ix n : Nat) (rc : Option Nat) (sp : ex_S), (be_X10_count ix).map (fun q => (q.1, q.2.1, ab_sp ab_hd q.2.2)) = some (n, rc, sp) → ex_cok l RX10 1 21 ix n rc sp := by
  intro ix n rc sp h
  obtain ⟨l0, h2, rfl⟩ := ab_dmk h
  clear h
  unfold be_X10_count at h2
  split at h2
  · cases h2; exact ec_cV (bm_X10_finding l) bw_X10_finding bv_X10_finding (by decide) (by decide) (Or.inl ba_X10_count.2.2.2.2.1) (T := TX10) (N := 57) rfl (by decide) bp_X10_finding
  · cases h2
theorem bj_X10_count (l : Launch) : ex_ok l 1 21 bx_X10_count := ec_okp fo_X10 co_X10 so_X10 (bk_X10_count l)
theorem bm_X10_count (l : Launch) : ex_Met l yX10_count cX10_count 4 (some .int) 1 21 (ab_sp ab_hd bc_X10_count) := ab_met (by decide) pn_RX10 rfl (bj_X10_count l) bd_X10_count ab_hcm ab_xk bz_X10_count
theorem ba_X10_found : ec_al [(1599, Cond.code yX10_found cX10_found 2 (some .int)), (68, Cond.initialized yX10_found.cls), (1597, Cond.instanceMethod yX10_found), (1598, Cond.selects yX10_found.cls yX10_found yX10_found), (1303, Cond.methodLink RX10 171 yX10_isIn), (1282, Cond.methodLink RX10 160 yX10_finding)] := ec_alk (by decide +kernel)
theorem bw_X10_found : ec_cw yX10_found cX10_found 2 (some .int) := ⟨ba_X10_found.1, ba_X10_found.2.1, nc_RX10⟩
theorem bv_X10_found : Cond.instanceMethod yX10_found ∈ ec_tb ∧ Cond.selects yX10_found.cls yX10_found yX10_found ∈ ec_tb := ⟨ba_X10_found.2.2.1, ba_X10_found.2.2.2.1⟩
theorem bp_X10_found : (parseMethodDescriptor yX10_found.desc).map (fun d => d.parameters.length) = some 1 := by decide +kernel
theorem bk_X10_found (l : Launch) : ∀ (ix n : Nat) (rc : Option Nat) (sp : ex_S), (be_X10_found ix).map (fun q => (q.1, q.2.1, ab_sp ab_hd q.2.2)) = some (n, rc, sp) → ex_cok l RX10 1 22 ix n rc sp := by
  intro ix n rc sp h
  obtain ⟨l0, h2, rfl⟩ := ab_dmk h
  clear h
  unfold be_X10_found at h2
  split at h2
  · cases h2; exact ec_cS (bm_X10_isIn l) bw_X10_isIn bv_X10_isIn (by decide) (by decide) (Or.inl ba_X10_found.2.2.2.2.1) bp_X10_isIn
  · cases h2; exact ec_cV (bm_X10_finding l) bw_X10_finding bv_X10_finding (by decide) (by decide) (Or.inl ba_X10_found.2.2.2.2.2.1) (T := TX10) (N := 57) rfl (by decide) bp_X10_finding
  · cases h2
theorem bj_X10_found (l : Launch) : ex_ok l 1 22 bx_X10_found := ec_okp fo_X10 co_X10 so_X10 (bk_X10_found l)
theorem bm_X10_found (l : Launch) : ex_Met l yX10_found cX10_found 2 (some .int) 1 22 (ab_sp ab_hd bc_X10_found) := ab_met (by decide) pn_RX10 rfl (bj_X10_found l) bd_X10_found ab_hcm ab_xk bz_X10_found

theorem ba_X10_worst : ec_al [(1539, Cond.code yX10_worst cX10_worst 5 (some .int)), (68, Cond.initialized yX10_worst.cls), (1538, Cond.instanceMethod yX10_worst), (55, Cond.selects yX10_worst.cls yX10_worst yX10_worst), (1528, Cond.methodLink RX10 280 yX10_partOf), (1540, Cond.methodLink RX10 283 yX10_ones)] := ec_alk (by decide +kernel)
theorem bw_X10_worst : ec_cw yX10_worst cX10_worst 5 (some .int) := ⟨ba_X10_worst.1, ba_X10_worst.2.1, nc_RX10⟩
theorem bv_X10_worst : Cond.instanceMethod yX10_worst ∈ ec_tb ∧ Cond.selects yX10_worst.cls yX10_worst yX10_worst ∈ ec_tb := ⟨ba_X10_worst.2.2.1, ba_X10_worst.2.2.2.1⟩
theorem bp_X10_worst : (parseMethodDescriptor yX10_worst.desc).map (fun d => d.parameters.length) = some 1 := by decide +kernel
theorem bk_X10_worst (l : Launch) : ∀ (ix n : Nat) (rc : Option Nat) (sp : ex_S), (be_X10_worst ix).map (fun q => (q.1, q.2.1, ab_sp ab_hd q.2.2)) = some (n, rc, sp) → ex_cok l RX10 1 26 ix n rc sp := by
  intro ix n rc sp h
  obtain ⟨l0, h2, rfl⟩ := ab_dmk h
  clear h
  unfold be_X10_worst at h2
  split at h2
  · cases h2; exact ec_cV (bm_X10_partOf l) bw_X10_partOf bv_X10_partOf (by decide) (by decide) (Or.inl ba_X10_worst.2.2.2.2.1) (T := TX10) (N := 57) rfl (by decide) bp_X10_partOf
  · cases h2; exact ec_cS (bm_X10_ones l) bw_X10_ones bv_X10_ones (by decide) (by decide) (Or.inl ba_X10_worst.2.2.2.2.2.1) bp_X10_ones
  · cases h2
theorem bj_X10_worst (l : Launch) : ex_ok l 1 26 bx_X10_worst := ec_okp fo_X10 co_X10 so_X10 (bk_X10_worst l)
theorem dX10_worst_0 : decode cX10_worst 0 = .ok (.iconst 0, 1) := by decide +kernel
theorem dX10_worst_1 : decode cX10_worst 1 = .ok (.istore_n 2, 1) := by decide +kernel
theorem dX10_worst_2 : decode cX10_worst 2 = .ok (.iconst 0, 1) := by decide +kernel
theorem dX10_worst_3 : decode cX10_worst 3 = .ok (.istore_n 3, 1) := by decide +kernel
theorem dX10_worst_4 : decode cX10_worst 4 = .ok (.iload_n 3, 1) := by decide +kernel
theorem dX10_worst_5 : decode cX10_worst 5 = .ok (.aload_n 0, 1) := by decide +kernel
theorem dX10_worst_6 : decode cX10_worst 6 = .ok (.getfield 148, 3) := by decide +kernel
theorem dX10_worst_9 : decode cX10_worst 9 = .ok (.if_icmp .ge 38, 3) := by decide +kernel
theorem dX10_worst_12 : decode cX10_worst 12 = .ok (.aload_n 0, 1) := by decide +kernel
theorem dX10_worst_13 : decode cX10_worst 13 = .ok (.getfield 277, 3) := by decide +kernel
theorem dX10_worst_16 : decode cX10_worst 16 = .ok (.aload_n 0, 1) := by decide +kernel
theorem dX10_worst_17 : decode cX10_worst 17 = .ok (.iload_n 3, 1) := by decide +kernel
theorem dX10_worst_18 : decode cX10_worst 18 = .ok (.iload_n 1, 1) := by decide +kernel
theorem dX10_worst_19 : decode cX10_worst 19 = .ok (.invokevirtual 280, 3) := by decide +kernel
theorem dX10_worst_22 : decode cX10_worst 22 = .ok (.iand, 1) := by decide +kernel
theorem dX10_worst_23 : decode cX10_worst 23 = .ok (.invokestatic 283, 3) := by decide +kernel
theorem dX10_worst_26 : decode cX10_worst 26 = .ok (.istore 4, 2) := by decide +kernel
theorem dX10_worst_28 : decode cX10_worst 28 = .ok (.iload 4, 2) := by decide +kernel
theorem dX10_worst_30 : decode cX10_worst 30 = .ok (.iload_n 2, 1) := by decide +kernel
theorem dX10_worst_31 : decode cX10_worst 31 = .ok (.if_icmp .le 8, 3) := by decide +kernel
theorem dX10_worst_34 : decode cX10_worst 34 = .ok (.iload 4, 2) := by decide +kernel
theorem dX10_worst_36 : decode cX10_worst 36 = .ok (.goto 4, 3) := by decide +kernel
theorem dX10_worst_39 : decode cX10_worst 39 = .ok (.iload_n 2, 1) := by decide +kernel
theorem dX10_worst_40 : decode cX10_worst 40 = .ok (.istore_n 2, 1) := by decide +kernel
theorem dX10_worst_41 : decode cX10_worst 41 = .ok (.iinc 3 1, 3) := by decide +kernel
theorem dX10_worst_44 : decode cX10_worst 44 = .ok (.goto (-40), 3) := by decide +kernel
theorem dX10_worst_47 : decode cX10_worst 47 = .ok (.iload_n 2, 1) := by decide +kernel
theorem dX10_worst_48 : decode cX10_worst 48 = .ok (.ireturn, 1) := by decide +kernel
def wo_J (c : Int32) (cs0 : ex_C) : Nat → ex_L → ex_V → ex_C → Prop := fun n lv st cs => st = [] ∧ ab_hk ab_hd cs ∧ ab_fr [] cs0 cs ∧ ∃ (a i : Int32) (x4 : Option Value), lv = [some (.ref 76), some (.int c), some (.int a), some (.int i), x4] ∧ a = wr_f (wr_q (gi cs0 76) (gi cs0 80) (gi cs0 81) c) (gi cs0 76 39) i.toNatClampNeg ∧ 0 ≤ i.toInt ∧ i.toInt ≤ (gi cs0 76 0).toInt ∧ (n : Int) = 20 - i.toInt
def wo_I (c : Int32) (cs0 : ex_C) (pc : Nat) : Option (Nat → ex_L → ex_V → ex_C → Prop) := if pc = 4 then some (wo_J c cs0) else none
def wo_B (c : Int32) (cs0 : ex_C) (n : Nat) : Nat → Option (ex_L → ex_V → ex_C → Prop) := fun pc => (wo_I c cs0 pc).map (fun J' lv st cs => ∃ n', n' < n ∧ J' n' lv st cs)
def wo_A (c : Int32) (cs0 : ex_C) : Nat → Option (ex_L → ex_V → ex_C → Prop) := fun pc => (wo_I c cs0 pc).map (fun J' lv st cs => ∃ n', J' n' lv st cs)
set_option maxRecDepth 100000 in
set_option maxHeartbeats 4000000 in
theorem wo_w4 {cs cs1 : ex_C} {Q : ex_Q} {c : Int32} (hk1 : ab_hk ab_hd cs1) (hf : ab_fr [] cs cs1) (hQ : ∀ (r : Int32) cs', ab_hk ab_hd cs' → ab_fr [] cs cs' → r = wr (gi cs 76) (gi cs 80) (gi cs 81) c → Q (some (.int r)) cs') {n : Nat} {a i : Int32} {x4 : Option Value} (ha : a = wr_f (wr_q (gi cs 76) (gi cs 80) (gi cs 81) c) (gi cs 76 39) i.toNatClampNeg) (b3 : 0 ≤ i.toInt) (b4 : i.toInt ≤ (gi cs 76 0).toInt) (hn : (n : Int) = 20 - i.toInt) : ex_wp ec_xt bx_X10_worst cX10_worst (some .int) (wo_B c cs n) Q 60 4 [some (.ref 76), some (.int c), some (.int a), some (.int i), x4] [] cs1 := by
  have z0 := ab_z0
  obtain ⟨ms, h76, ml, m0, m4, m39, m5, m6, -, -, M12, H12, -⟩ := hu_mod hk1
  rw [show gi cs1 76 0 = gi cs 76 0 from gi_f1 hf rfl] at m0 M12
  rw [show gi cs1 76 4 = gi cs 76 4 from gi_f1 hf rfl] at m4 H12
  rw [show gi cs1 76 39 = gi cs 76 39 from gi_f1 hf rfl] at m39
  obtain ⟨M1, M2⟩ := M12
  obtain ⟨H1, H2⟩ := H12
  refine wq_iload_n dX10_worst_4 rfl rfl ?_
  refine go_wp rfl (wq_aload_n dX10_worst_5 rfl rfl ?_)
  refine go_wp rfl (wq_getfield dX10_worst_6 fe_X10_148 h76 m0 rfl ?_)
  refine go_wp rfl (wq_icmp_ge (t := 47) dX10_worst_9 (by decide) rfl (fun q1 => ?_) (fun q1 => ?_))
  · have q1' : Int32.toInt i ≥ Int32.toInt (gi cs 76 0) := (ab_ige (x := i) (y := (gi cs 76 0))).1 q1
    refine go_wp rfl (wq_iload_n dX10_worst_47 rfl rfl ?_)
    refine go_wp rfl (wq_ireturn dX10_worst_48 trivial (hQ _ _ hk1 hf (by rw [ha, show i = gi cs 76 0 from Int32.toInt_inj.mp (by omega)]; rfl)))
  · have q1' : Int32.toInt i < Int32.toInt (gi cs 76 0) := (ab_ige (x := i) (y := (gi cs 76 0))).2 q1
    refine go_wp rfl (wq_aload_n dX10_worst_12 rfl rfl ?_)
    refine go_wp rfl (wq_getfield dX10_worst_13 fe_X10_277 h76 m39 rfl ?_)
    refine go_wp rfl (wq_aload_n dX10_worst_16 rfl rfl ?_)
    refine go_wp rfl (wq_iload_n dX10_worst_17 rfl rfl ?_)
    refine go_wp rfl (wq_iload_n dX10_worst_18 rfl rfl ?_)
    refine go_wp rfl (wq_virtual (q := 3) (ci := 10) (a := 76) (av := [.ref 76, .int i, .int c]) (r := [.int (gi cs 76 39)]) dX10_worst_19 rfl (Nat.le_of_ble_eq_true rfl) rfl rfl rfl (Nat.le_of_ble_eq_true rfl) h76 rfl (hx_call 0 (c := ([.inl 76, .inr (0, 5), .inr ((-2147483648), 2147483647)], [], [], [(some ((-2147483648), 2147483647, some (900000006, 0)), [], [])])) rfl (hx_pr3 hx_cr (hx_ci ⟨by omega, by omega⟩) (hx_ci (hx_tb _))) hk1 (fun r cs2 hp => ?_)))
    obtain ⟨hk2, hg2, u, rfl, hu, -⟩ := hu_int hp
    refine ret_int ?_
    rw [hg_6, gi_fr (k := 76) hf (fun _ => rfl), gi_fr (k := 80) hf (fun _ => rfl), gi_fr (k := 81) hf (fun _ => rfl)] at hu
    have hue : u = (wr_q (gi cs 76) (gi cs 80) (gi cs 81) c) i.toNatClampNeg := Int32.toInt_inj.mp hu
    have hf2 := hf.tr hg2
    refine go_wp rfl (wq_iand (v := ((gi cs 76 39) &&& u)) dX10_worst_22 rfl rfl ?_)
    refine go_wp rfl (wq_static (q := 1) (av := [.int ((gi cs 76 39) &&& u)]) (r := []) dX10_worst_23 rfl rfl (Nat.le_of_ble_eq_true rfl) rfl rfl (Nat.le_of_ble_eq_true rfl) rfl (hx_call 0 (c := ([.inr ((-2147483648), 2147483647)], [], [], [(some ((-2147483648), 2147483647, some (1000000000, 0)), [], [])])) rfl (hx_pr1 (hx_ci (hx_tb _))) hk2 (fun r cs3 hp => ?_)))
    obtain ⟨hk3, hg3, y3, rfl, hy3, -⟩ := hu_int hp
    refine ret_int ?_
    rw [hd_11] at hy3
    have hf3 := hf2.tr hg3
    refine go_wp rfl (wq_istore (lv' := [some (.ref 76), some (.int c), some (.int a), some (.int i), some (.int y3)]) dX10_worst_26 ⟨Nat.le_of_ble_eq_true rfl, rfl⟩ rfl rfl ?_)
    refine go_wp rfl (wq_iload dX10_worst_28 rfl rfl ?_)
    refine go_wp rfl (wq_iload_n dX10_worst_30 rfl rfl ?_)
    refine go_wp rfl (wq_icmp_le (t := 39) dX10_worst_31 (by decide) rfl (fun q2 => ?_) (fun q2 => ?_))
    · have q2' : Int32.toInt y3 ≤ Int32.toInt a := (ab_ile (x := y3) (y := a)).1 q2
      refine go_wp rfl (wq_iload_n dX10_worst_39 rfl rfl ?_)
      refine go_wp rfl (wq_istore_n (lv' := [some (.ref 76), some (.int c), some (.int a), some (.int i), some (.int y3)]) dX10_worst_40 ⟨Nat.le_of_ble_eq_true rfl, rfl⟩ rfl rfl ?_)
      refine go_wp rfl (wq_iinc (v := (i + Int32.ofInt 1)) (lv' := [some (.ref 76), some (.int c), some (.int a), some (.int (i + Int32.ofInt 1)), some (.int y3)]) dX10_worst_41 rfl ⟨Nat.le_of_ble_eq_true rfl, rfl⟩ rfl rfl rfl ?_)
      refine go_wp rfl (wq_goto (t := 4) dX10_worst_44 (by decide) ?_)
      have hi := ab_inc (x := i) (by omega) (by omega)
      exact go_cut rfl ⟨(20 - (i.toInt + 1)).toNat, (by omega), rfl, hk3, hf3, _, _, _, rfl, (by rw [ha]; exact (wr_s b3 (by omega) hue hy3).2 (by rw [← ha]; omega)), (by omega), (by omega), (by omega)⟩
    · have q2' : Int32.toInt y3 > Int32.toInt a := (ab_ile (x := y3) (y := a)).2 q2
      refine go_wp rfl (wq_iload dX10_worst_34 rfl rfl ?_)
      refine go_wp rfl (wq_goto (t := 40) dX10_worst_36 (by decide) ?_)
      refine go_wp rfl (wq_istore_n (lv' := [some (.ref 76), some (.int c), some (.int y3), some (.int i), some (.int y3)]) dX10_worst_40 ⟨Nat.le_of_ble_eq_true rfl, rfl⟩ rfl rfl ?_)
      refine go_wp rfl (wq_iinc (v := (i + Int32.ofInt 1)) (lv' := [some (.ref 76), some (.int c), some (.int y3), some (.int (i + Int32.ofInt 1)), some (.int y3)]) dX10_worst_41 rfl ⟨Nat.le_of_ble_eq_true rfl, rfl⟩ rfl rfl rfl ?_)
      refine go_wp rfl (wq_goto (t := 4) dX10_worst_44 (by decide) ?_)
      have hi := ab_inc (x := i) (by omega) (by omega)
      exact go_cut rfl ⟨(20 - (i.toInt + 1)).toNat, (by omega), rfl, hk3, hf3, _, _, _, rfl, ((wr_s b3 (by omega) hue hy3).1 (by rw [← ha]; omega)), (by omega), (by omega), (by omega)⟩
set_option maxRecDepth 100000 in
set_option maxHeartbeats 4000000 in
theorem wo_w0 {cs : ex_C} {Q : ex_Q} {c : Int32} (hk1 : ab_hk ab_hd cs) : ex_wp ec_xt bx_X10_worst cX10_worst (some .int) (wo_A c cs) Q 60 0 [some (.ref 76), some (.int c), none, none, none] [] cs := by
  have z0 := ab_z0
  obtain ⟨ms, h76, ml, m0, m4, m39, m5, m6, h80, h81, ⟨M1, M2⟩, ⟨H1, H2⟩, E80, E81⟩ := hu_mod hk1
  refine wq_iconst (v := 0) dX10_worst_0 (by decide) rfl ?_
  refine go_wp rfl (wq_istore_n (lv' := [some (.ref 76), some (.int c), some (.int 0), none, none]) dX10_worst_1 ⟨Nat.le_of_ble_eq_true rfl, rfl⟩ rfl rfl ?_)
  refine go_wp rfl (wq_iconst (v := 0) dX10_worst_2 (by decide) rfl ?_)
  refine go_wp rfl (wq_istore_n (lv' := [some (.ref 76), some (.int c), some (.int 0), some (.int 0), none]) dX10_worst_3 ⟨Nat.le_of_ble_eq_true rfl, rfl⟩ rfl rfl ?_)
  exact go_cut rfl ⟨20, rfl, hk1, ab_rf0, _, _, _, rfl, rfl, (by rw [ab_z0]; omega), (by rw [ab_z0]; omega), (by rw [ab_z0]; omega)⟩
set_option maxRecDepth 100000 in
theorem bm_X10_worst (l : Launch) : ex_Met l yX10_worst cX10_worst 5 (some .int) 1 26 (ab_sp ab_hd bc_X10_worst) := by
  intro D ad ca n sz av cs Q h
  refine ex_lmet (by decide) rfl (bj_X10_worst l) D ad ca n sz av cs Q ?_
  obtain ⟨c0, hc0, ⟨hp1, hp2, -⟩, hk, hQ⟩ := h
  have hc' : c0 = ([.inl 76, .inr (-2147483648, 2147483647)], [], [], [(some (-2147483648, 2147483647, some (900000033, 0)), [], [])]) := by
    unfold bc_X10_worst bq_X10_worst at hc0
    simpa using hc0
  subst hc'
  obtain ⟨v0, e0, pz0⟩ := hp2 0 _ rfl
  obtain ⟨v1, e1, c, rfl, c1, c2⟩ := hp2 1 _ rfl
  cases pz0
  have hav : av = [.ref 76, .int c] := hx_av2 hp1 e0 e1
  subst hav
  have hQ' : ∀ (r : Int32) cs', ab_hk ab_hd cs' → ab_fr [] cs cs' → r = wr (gi cs 76) (gi cs 80) (gi cs 81) c → Q (some (.int r)) cs' := by
    intro r cs' hk' hf' hr
    refine hQ _ _ ⟨hk', hf', _, List.mem_cons_self, ⟨r, rfl, hx_tb r, fun d hd => ?_⟩, fun q hq => (by cases hq), fun q hq => (by cases hq)⟩
    cases hd
    show _ = ab_oo _ _ _ + (0 : Int)
    rw [hg_33, hr]
    omega
  refine sl_in 60 (wo_I c cs) rfl (Nat.le_of_ble_eq_true rfl) rfl (wo_w0 hk) (fun pc J n lv st cs1 hI hJ => ?_)
  unfold wo_I at hI
  split at hI
  · rename_i e'
    subst e'
    cases hI
    obtain ⟨rfl, hk1, hf, a, i, x4, rfl, ha, b3, b4, hn⟩ := hJ
    exact wo_w4 hk1 hf hQ' ha b3 b4 hn
  · cases hI
theorem ba_X10_best : ec_al [(1535, Cond.code yX10_best cX10_best 5 (some .int)), (68, Cond.initialized yX10_best.cls), (1533, Cond.instanceMethod yX10_best), (1534, Cond.selects yX10_best.cls yX10_best yX10_best), (1303, Cond.methodLink RX10 171 yX10_isIn), (1282, Cond.methodLink RX10 160 yX10_finding), (1536, Cond.methodLink RX10 286 yX10_worst), (1540, Cond.methodLink RX10 283 yX10_ones)] := ec_alk (by decide +kernel)
theorem bw_X10_best : ec_cw yX10_best cX10_best 5 (some .int) := ⟨ba_X10_best.1, ba_X10_best.2.1, nc_RX10⟩
theorem bv_X10_best : Cond.instanceMethod yX10_best ∈ ec_tb ∧ Cond.selects yX10_best.cls yX10_best yX10_best ∈ ec_tb := ⟨ba_X10_best.2.2.1, ba_X10_best.2.2.2.1⟩
theorem bp_X10_best : (parseMethodDescriptor yX10_best.desc).map (fun d => d.parameters.length) = some 1 := by decide +kernel
theorem bk_X10_best (l : Launch) : ∀ (ix n : Nat) (rc : Option Nat) (sp : ex_S), (be_X10_best ix).map (fun q => (q.1, q.2.1, ab_sp ab_hd q.2.2)) = some (n, rc, sp) → ex_cok l RX10 2 50 ix n rc sp := by
  intro ix n rc sp h
  obtain ⟨l0, h2, rfl⟩ := ab_dmk h
  clear h
  unfold be_X10_best at h2
  split at h2
  · cases h2; exact ec_cS (bm_X10_isIn l) bw_X10_isIn bv_X10_isIn (by decide) (by decide) (Or.inl ba_X10_best.2.2.2.2.1) bp_X10_isIn
  · cases h2; exact ec_cV (bm_X10_finding l) bw_X10_finding bv_X10_finding (by decide) (by decide) (Or.inl ba_X10_best.2.2.2.2.2.1) (T := TX10) (N := 57) rfl (by decide) bp_X10_finding
  · cases h2; exact ec_cV (bm_X10_worst l) bw_X10_worst bv_X10_worst (by decide) (by decide) (Or.inl ba_X10_best.2.2.2.2.2.2.1) (T := TX10) (N := 57) rfl (by decide) bp_X10_worst
  · cases h2; exact ec_cS (bm_X10_ones l) bw_X10_ones bv_X10_ones (by decide) (by decide) (Or.inl ba_X10_best.2.2.2.2.2.2.2.1) bp_X10_ones
  · cases h2
theorem bj_X10_best (l : Launch) : ex_ok l 2 50 bx_X10_best := ec_okp fo_X10 co_X10 so_X10 (bk_X10_best l)
theorem dX10_best_0 : decode cX10_best 0 = .ok (.iload_n 1, 1) := by decide +kernel
theorem dX10_best_1 : decode cX10_best 1 = .ok (.iconst 0, 1) := by decide +kernel
theorem dX10_best_2 : decode cX10_best 2 = .ok (.iconst 1, 1) := by decide +kernel
theorem dX10_best_3 : decode cX10_best 3 = .ok (.invokestatic 171, 3) := by decide +kernel
theorem dX10_best_6 : decode cX10_best 6 = .ok (.ifCond .ne 9, 3) := by decide +kernel
theorem dX10_best_9 : decode cX10_best 9 = .ok (.aload_n 0, 1) := by decide +kernel
theorem dX10_best_10 : decode cX10_best 10 = .ok (.iconst 1, 1) := by decide +kernel
theorem dX10_best_11 : decode cX10_best 11 = .ok (.invokevirtual 160, 3) := by decide +kernel
theorem dX10_best_14 : decode cX10_best 14 = .ok (.ireturn, 1) := by decide +kernel
theorem dX10_best_15 : decode cX10_best 15 = .ok (.aload_n 0, 1) := by decide +kernel
theorem dX10_best_16 : decode cX10_best 16 = .ok (.getfield 277, 3) := by decide +kernel
theorem dX10_best_19 : decode cX10_best 19 = .ok (.ifCond .ne 9, 3) := by decide +kernel
theorem dX10_best_22 : decode cX10_best 22 = .ok (.aload_n 0, 1) := by decide +kernel
theorem dX10_best_23 : decode cX10_best 23 = .ok (.iconst 2, 1) := by decide +kernel
theorem dX10_best_24 : decode cX10_best 24 = .ok (.invokevirtual 160, 3) := by decide +kernel
theorem dX10_best_27 : decode cX10_best 27 = .ok (.ireturn, 1) := by decide +kernel
theorem dX10_best_28 : decode cX10_best 28 = .ok (.iconst 0, 1) := by decide +kernel
theorem dX10_best_29 : decode cX10_best 29 = .ok (.istore_n 2, 1) := by decide +kernel
theorem dX10_best_30 : decode cX10_best 30 = .ok (.iconst 1, 1) := by decide +kernel
theorem dX10_best_31 : decode cX10_best 31 = .ok (.istore_n 3, 1) := by decide +kernel
theorem dX10_best_32 : decode cX10_best 32 = .ok (.iload_n 3, 1) := by decide +kernel
theorem dX10_best_33 : decode cX10_best 33 = .ok (.iconst 1, 1) := by decide +kernel
theorem dX10_best_34 : decode cX10_best 34 = .ok (.aload_n 0, 1) := by decide +kernel
theorem dX10_best_35 : decode cX10_best 35 = .ok (.getfield 151, 3) := by decide +kernel
theorem dX10_best_38 : decode cX10_best 38 = .ok (.ishl, 1) := by decide +kernel
theorem dX10_best_39 : decode cX10_best 39 = .ok (.if_icmp .ge 49, 3) := by decide +kernel
theorem dX10_best_42 : decode cX10_best 42 = .ok (.aload_n 0, 1) := by decide +kernel
theorem dX10_best_43 : decode cX10_best 43 = .ok (.iload_n 3, 1) := by decide +kernel
theorem dX10_best_44 : decode cX10_best 44 = .ok (.invokevirtual 286, 3) := by decide +kernel
theorem dX10_best_47 : decode cX10_best 47 = .ok (.aload_n 0, 1) := by decide +kernel
theorem dX10_best_48 : decode cX10_best 48 = .ok (.iload_n 2, 1) := by decide +kernel
theorem dX10_best_49 : decode cX10_best 49 = .ok (.invokevirtual 286, 3) := by decide +kernel
theorem dX10_best_52 : decode cX10_best 52 = .ok (.isub, 1) := by decide +kernel
theorem dX10_best_53 : decode cX10_best 53 = .ok (.istore 4, 2) := by decide +kernel
theorem dX10_best_55 : decode cX10_best 55 = .ok (.iload 4, 2) := by decide +kernel
theorem dX10_best_57 : decode cX10_best 57 = .ok (.ifCond .lt 19, 3) := by decide +kernel
theorem dX10_best_60 : decode cX10_best 60 = .ok (.iload 4, 2) := by decide +kernel
theorem dX10_best_62 : decode cX10_best 62 = .ok (.ifCond .ne 18, 3) := by decide +kernel
theorem dX10_best_65 : decode cX10_best 65 = .ok (.iload_n 3, 1) := by decide +kernel
theorem dX10_best_66 : decode cX10_best 66 = .ok (.invokestatic 283, 3) := by decide +kernel
theorem dX10_best_69 : decode cX10_best 69 = .ok (.iload_n 2, 1) := by decide +kernel
theorem dX10_best_70 : decode cX10_best 70 = .ok (.invokestatic 283, 3) := by decide +kernel
theorem dX10_best_73 : decode cX10_best 73 = .ok (.if_icmp .ge 7, 3) := by decide +kernel
theorem dX10_best_76 : decode cX10_best 76 = .ok (.iload_n 3, 1) := by decide +kernel
theorem dX10_best_77 : decode cX10_best 77 = .ok (.goto 4, 3) := by decide +kernel
theorem dX10_best_80 : decode cX10_best 80 = .ok (.iload_n 2, 1) := by decide +kernel
theorem dX10_best_81 : decode cX10_best 81 = .ok (.istore_n 2, 1) := by decide +kernel
theorem dX10_best_82 : decode cX10_best 82 = .ok (.iinc 3 1, 3) := by decide +kernel
theorem dX10_best_85 : decode cX10_best 85 = .ok (.goto (-53), 3) := by decide +kernel
theorem dX10_best_88 : decode cX10_best 88 = .ok (.iload_n 1, 1) := by decide +kernel
theorem dX10_best_89 : decode cX10_best 89 = .ok (.ifCond .ne 7, 3) := by decide +kernel
theorem dX10_best_92 : decode cX10_best 92 = .ok (.iload_n 2, 1) := by decide +kernel
theorem dX10_best_93 : decode cX10_best 93 = .ok (.goto 8, 3) := by decide +kernel
theorem dX10_best_96 : decode cX10_best 96 = .ok (.aload_n 0, 1) := by decide +kernel
theorem dX10_best_97 : decode cX10_best 97 = .ok (.iload_n 2, 1) := by decide +kernel
theorem dX10_best_98 : decode cX10_best 98 = .ok (.invokevirtual 286, 3) := by decide +kernel
theorem dX10_best_101 : decode cX10_best 101 = .ok (.ireturn, 1) := by decide +kernel
def rb_J (w : Int32) (cs0 : ex_C) : Nat → ex_L → ex_V → ex_C → Prop := fun n lv st cs => st = [] ∧ ab_hk ab_hd cs ∧ ab_fr [] cs0 cs ∧ (w.toInt = 0 ∨ w.toInt = 1) ∧ ¬ (gi cs0 76 39).toInt = 0 ∧ ∃ (k : Nat) (b i : Int32) (x4 : Option Value), lv = [some (.ref 76), some (.int w), some (.int b), some (.int i), x4] ∧ b = (b2_f (gi cs0 76) (gi cs0 80) (gi cs0 81) k) ∧ i.toInt = (k : Int) + 1 ∧ i.toInt ≤ ((1 : Int32) <<< ((gi cs0 76 4) &&& 31)).toInt ∧ (n : Int) = 300 - i.toInt
def rb_I (w : Int32) (cs0 : ex_C) (pc : Nat) : Option (Nat → ex_L → ex_V → ex_C → Prop) := if pc = 32 then some (rb_J w cs0) else none
def rb_B (w : Int32) (cs0 : ex_C) (n : Nat) : Nat → Option (ex_L → ex_V → ex_C → Prop) := fun pc => (rb_I w cs0 pc).map (fun J' lv st cs => ∃ n', n' < n ∧ J' n' lv st cs)
def rb_A (w : Int32) (cs0 : ex_C) : Nat → Option (ex_L → ex_V → ex_C → Prop) := fun pc => (rb_I w cs0 pc).map (fun J' lv st cs => ∃ n', J' n' lv st cs)
set_option maxRecDepth 100000 in
set_option maxHeartbeats 4000000 in
theorem rb_w32 {cs cs1 : ex_C} {Q : ex_Q} {w : Int32} (hk1 : ab_hk ab_hd cs1) (hf : ab_fr [] cs cs1) (hw : w.toInt = 0 ∨ w.toInt = 1) (hs0 : ¬ (gi cs 76 39).toInt = 0) (hQ : ∀ (r : Int32) cs', ab_hk ab_hd cs' → ab_fr [(114, none)] cs cs' → r.toInt = (br (gi cs 76) (gi cs 80) (gi cs 81) w) → Q (some (.int r)) cs') {n k : Nat} {b i : Int32} {x4 : Option Value} (hb : b = (b2_f (gi cs 76) (gi cs 80) (gi cs 81) k)) (hi1 : i.toInt = (k : Int) + 1) (hi2 : i.toInt ≤ ((1 : Int32) <<< ((gi cs 76 4) &&& 31)).toInt) (hn : (n : Int) = 300 - i.toInt) : ex_wp ec_xt bx_X10_best cX10_best (some .int) (rb_B w cs n) Q 90 32 [some (.ref 76), some (.int w), some (.int b), some (.int i), x4] [] cs1 := by
  have z0 := ab_z0
  obtain ⟨ms, h76, ml, m0, m4, m39, m5, m6, -, -, M12, H12, -⟩ := hu_mod hk1
  rw [show gi cs1 76 0 = gi cs 76 0 from gi_f1 hf rfl] at m0 M12
  rw [show gi cs1 76 4 = gi cs 76 4 from gi_f1 hf rfl] at m4 H12
  rw [show gi cs1 76 39 = gi cs 76 39 from gi_f1 hf rfl] at m39
  obtain ⟨M1, M2⟩ := M12
  obtain ⟨H1, H2⟩ := H12
  have hsh := (hu_sh H1 H2).2
  have hkk : ((1 : Int32) <<< ((gi cs 76 4) &&& 31)).toInt ≤ i.toInt → k = bs_n (gi cs 76 4) := fun h => (by
    unfold bs_n
    omega)
  refine wq_iload_n dX10_best_32 rfl rfl ?_
  refine go_wp rfl (wq_iconst (v := 1) dX10_best_33 (by decide) rfl ?_)
  refine go_wp rfl (wq_aload_n dX10_best_34 rfl rfl ?_)
  refine go_wp rfl (wq_getfield dX10_best_35 fe_X10_151 h76 m4 rfl ?_)
  refine go_wp rfl (wq_ishl (v := ((1 : Int32) <<< ((gi cs 76 4) &&& 31))) dX10_best_38 rfl rfl ?_)
  refine go_wp rfl (wq_icmp_ge (t := 88) dX10_best_39 (by decide) rfl (fun q1 => ?_) (fun q1 => ?_))
  · have q1' : Int32.toInt i ≥ Int32.toInt ((1 : Int32) <<< ((gi cs 76 4) &&& 31)) := (ab_ige (x := i) (y := ((1 : Int32) <<< ((gi cs 76 4) &&& 31)))).1 q1
    refine go_wp rfl (wq_iload_n dX10_best_88 rfl rfl ?_)
    refine go_wp rfl (wq_if_ne (t := 96) dX10_best_89 (by decide) rfl (fun q2 => ?_) (fun q2 => ?_))
    · have q2' : Int32.toInt w ≠ Int32.toInt 0 := (ab_ieq (x := w) (y := 0)).2 q2
      refine go_wp rfl (wq_aload_n dX10_best_96 rfl rfl ?_)
      refine go_wp rfl (wq_iload_n dX10_best_97 rfl rfl ?_)
      refine go_wp rfl (wq_virtual (q := 2) (ci := 10) (a := 76) (av := [.ref 76, .int b]) (r := []) dX10_best_98 rfl (Nat.le_of_ble_eq_true rfl) rfl rfl rfl (Nat.le_of_ble_eq_true rfl) h76 rfl (hx_call 0 (c := ([.inl 76, .inr ((-2147483648), 2147483647)], [], [], [(some ((-2147483648), 2147483647, some (900000033, 0)), [], [])])) rfl (hx_pr2 hx_cr (hx_ci (hx_tb _))) hk1 (fun r cs6 hp => ?_)))
      obtain ⟨hk6, hg6, y6, rfl, hy6, -⟩ := hu_int hp
      refine ret_int ?_
      rw [hg_33, gi_fr (k := 76) hf (fun _ => rfl), gi_fr (k := 80) hf (fun _ => rfl), gi_fr (k := 81) hf (fun _ => rfl)] at hy6
      have hf6 := hf.tr hg6
      obtain ⟨ms6, h766, -⟩ := hu_mod hk6
      refine go_wp rfl (wq_ireturn dX10_best_101 trivial (hQ _ _ hk6 (hx_fr hf6) (by rw [hy6, hb]; exact (br_ye hw hs0 (hkk (by omega))).2 q2')))
    · have q2' : Int32.toInt w = Int32.toInt 0 := (ab_ieq (x := w) (y := 0)).1 q2
      refine go_wp rfl (wq_iload_n dX10_best_92 rfl rfl ?_)
      refine go_wp rfl (wq_goto (t := 101) dX10_best_93 (by decide) ?_)
      refine go_wp rfl (wq_ireturn dX10_best_101 trivial (hQ _ _ hk1 (hx_fr hf) (by rw [hb]; exact (br_ye hw hs0 (hkk (by omega))).1 q2')))
  · have q1' : Int32.toInt i < Int32.toInt ((1 : Int32) <<< ((gi cs 76 4) &&& 31)) := (ab_ige (x := i) (y := ((1 : Int32) <<< ((gi cs 76 4) &&& 31)))).2 q1
    refine go_wp rfl (wq_aload_n dX10_best_42 rfl rfl ?_)
    refine go_wp rfl (wq_iload_n dX10_best_43 rfl rfl ?_)
    refine go_wp rfl (wq_virtual (q := 2) (ci := 10) (a := 76) (av := [.ref 76, .int i]) (r := []) dX10_best_44 rfl (Nat.le_of_ble_eq_true rfl) rfl rfl rfl (Nat.le_of_ble_eq_true rfl) h76 rfl (hx_call 0 (c := ([.inl 76, .inr ((-2147483648), 2147483647)], [], [], [(some ((-2147483648), 2147483647, some (900000033, 0)), [], [])])) rfl (hx_pr2 hx_cr (hx_ci (hx_tb _))) hk1 (fun r cs2 hp => ?_)))
    obtain ⟨hk2, hg2, y2, rfl, hy2, -⟩ := hu_int hp
    refine ret_int ?_
    rw [hg_33, gi_fr (k := 76) hf (fun _ => rfl), gi_fr (k := 80) hf (fun _ => rfl), gi_fr (k := 81) hf (fun _ => rfl)] at hy2
    have hf2 := hf.tr hg2
    obtain ⟨ms2, h762, -⟩ := hu_mod hk2
    refine go_wp rfl (wq_aload_n dX10_best_47 rfl rfl ?_)
    refine go_wp rfl (wq_iload_n dX10_best_48 rfl rfl ?_)
    refine go_wp rfl (wq_virtual (q := 2) (ci := 10) (a := 76) (av := [.ref 76, .int b]) (r := [.int y2]) dX10_best_49 rfl (Nat.le_of_ble_eq_true rfl) rfl rfl rfl (Nat.le_of_ble_eq_true rfl) h762 rfl (hx_call 0 (c := ([.inl 76, .inr ((-2147483648), 2147483647)], [], [], [(some ((-2147483648), 2147483647, some (900000033, 0)), [], [])])) rfl (hx_pr2 hx_cr (hx_ci (hx_tb _))) hk2 (fun r cs3 hp => ?_)))
    obtain ⟨hk3, hg3, y3, rfl, hy3, -⟩ := hu_int hp
    refine ret_int ?_
    rw [hg_33, gi_fr (k := 76) hf2 (fun _ => rfl), gi_fr (k := 80) hf2 (fun _ => rfl), gi_fr (k := 81) hf2 (fun _ => rfl)] at hy3
    have hf3 := hf2.tr hg3
    obtain ⟨ms3, h763, -⟩ := hu_mod hk3
    refine go_wp rfl (wq_isub (v := (y2 - y3)) dX10_best_52 rfl rfl ?_)
    refine go_wp rfl (wq_istore (lv' := [some (.ref 76), some (.int w), some (.int b), some (.int i), some (.int (y2 - y3))]) dX10_best_53 ⟨Nat.le_of_ble_eq_true rfl, rfl⟩ rfl rfl ?_)
    refine go_wp rfl (wq_iload dX10_best_55 rfl rfl ?_)
    refine go_wp rfl (wq_if_lt (t := 76) dX10_best_57 (by decide) rfl (fun q3 => ?_) (fun q3 => ?_))
    · have q3' : Int32.toInt (y2 - y3) < Int32.toInt 0 := (ab_ilt (x := (y2 - y3)) (y := 0)).1 q3
      refine go_wp rfl (wq_iload_n dX10_best_76 rfl rfl ?_)
      refine go_wp rfl (wq_goto (t := 81) dX10_best_77 (by decide) ?_)
      refine go_wp rfl (wq_istore_n (lv' := [some (.ref 76), some (.int w), some (.int i), some (.int i), some (.int (y2 - y3))]) dX10_best_81 ⟨Nat.le_of_ble_eq_true rfl, rfl⟩ rfl rfl ?_)
      refine go_wp rfl (wq_iinc (v := (i + Int32.ofInt 1)) (lv' := [some (.ref 76), some (.int w), some (.int i), some (.int (i + Int32.ofInt 1)), some (.int (y2 - y3))]) dX10_best_82 rfl ⟨Nat.le_of_ble_eq_true rfl, rfl⟩ rfl rfl rfl ?_)
      refine go_wp rfl (wq_goto (t := 32) dX10_best_85 (by decide) ?_)
      have hi := ab_inc (x := i) (by omega) (by omega)
      have he : (y2 - y3) = wr (gi cs 76) (gi cs 80) (gi cs 81) i - wr (gi cs 76) (gi cs 80) (gi cs 81) b := by rw [Int32.toInt_inj.mp hy2, Int32.toInt_inj.mp hy3]
      have en : b2_f (gi cs 76) (gi cs 80) (gi cs 81) (k + 1) = i := by
        show br_n (gi cs 76) (gi cs 80) (gi cs 81) (Int32.ofNat (k + 1)) (b2_f (gi cs 76) (gi cs 80) (gi cs 81) k) = _
        rw [← nx_n hi1, ← hb]
        exact br_1 he (y := on_l i 8) (z := on_l b 8) rfl rfl (by omega)
      exact go_cut rfl ⟨(300 - (i.toInt + 1)).toNat, (by omega), rfl, hk3, hf3, hw, hs0, k + 1, _, _, _, rfl, en.symm, (by omega), (by omega), (by omega)⟩
    · have q3' : Int32.toInt (y2 - y3) ≥ Int32.toInt 0 := (ab_ilt (x := (y2 - y3)) (y := 0)).2 q3
      refine go_wp rfl (wq_iload dX10_best_60 rfl rfl ?_)
      refine go_wp rfl (wq_if_ne (t := 80) dX10_best_62 (by decide) rfl (fun q4 => ?_) (fun q4 => ?_))
      · have q4' : Int32.toInt (y2 - y3) ≠ Int32.toInt 0 := (ab_ieq (x := (y2 - y3)) (y := 0)).2 q4
        refine go_wp rfl (wq_iload_n dX10_best_80 rfl rfl ?_)
        refine go_wp rfl (wq_istore_n (lv' := [some (.ref 76), some (.int w), some (.int b), some (.int i), some (.int (y2 - y3))]) dX10_best_81 ⟨Nat.le_of_ble_eq_true rfl, rfl⟩ rfl rfl ?_)
        refine go_wp rfl (wq_iinc (v := (i + Int32.ofInt 1)) (lv' := [some (.ref 76), some (.int w), some (.int b), some (.int (i + Int32.ofInt 1)), some (.int (y2 - y3))]) dX10_best_82 rfl ⟨Nat.le_of_ble_eq_true rfl, rfl⟩ rfl rfl rfl ?_)
        refine go_wp rfl (wq_goto (t := 32) dX10_best_85 (by decide) ?_)
        have hi := ab_inc (x := i) (by omega) (by omega)
        have he : (y2 - y3) = wr (gi cs 76) (gi cs 80) (gi cs 81) i - wr (gi cs 76) (gi cs 80) (gi cs 81) b := by rw [Int32.toInt_inj.mp hy2, Int32.toInt_inj.mp hy3]
        have en : b2_f (gi cs 76) (gi cs 80) (gi cs 81) (k + 1) = b := by
          show br_n (gi cs 76) (gi cs 80) (gi cs 81) (Int32.ofNat (k + 1)) (b2_f (gi cs 76) (gi cs 80) (gi cs 81) k) = _
          rw [← nx_n hi1, ← hb]
          exact br_0 he (y := on_l i 8) (z := on_l b 8) rfl rfl (by omega)
        exact go_cut rfl ⟨(300 - (i.toInt + 1)).toNat, (by omega), rfl, hk3, hf3, hw, hs0, k + 1, _, _, _, rfl, en.symm, (by omega), (by omega), (by omega)⟩
      · have q4' : Int32.toInt (y2 - y3) = Int32.toInt 0 := (ab_ieq (x := (y2 - y3)) (y := 0)).1 q4
        refine go_wp rfl (wq_iload_n dX10_best_65 rfl rfl ?_)
        refine go_wp rfl (wq_static (q := 1) (av := [.int i]) (r := []) dX10_best_66 rfl rfl (Nat.le_of_ble_eq_true rfl) rfl rfl (Nat.le_of_ble_eq_true rfl) rfl (hx_call 0 (c := ([.inr ((-2147483648), 2147483647)], [], [], [(some ((-2147483648), 2147483647, some (1000000000, 0)), [], [])])) rfl (hx_pr1 (hx_ci (hx_tb _))) hk3 (fun r cs4 hp => ?_)))
        obtain ⟨hk4, hg4, y4, rfl, hy4, -⟩ := hu_int hp
        refine ret_int ?_
        rw [hd_11] at hy4
        have hf4 := hf3.tr hg4
        refine go_wp rfl (wq_iload_n dX10_best_69 rfl rfl ?_)
        refine go_wp rfl (wq_static (q := 1) (av := [.int b]) (r := [.int y4]) dX10_best_70 rfl rfl (Nat.le_of_ble_eq_true rfl) rfl rfl (Nat.le_of_ble_eq_true rfl) rfl (hx_call 0 (c := ([.inr ((-2147483648), 2147483647)], [], [], [(some ((-2147483648), 2147483647, some (1000000000, 0)), [], [])])) rfl (hx_pr1 (hx_ci (hx_tb _))) hk4 (fun r cs5 hp => ?_)))
        obtain ⟨hk5, hg5, y5, rfl, hy5, -⟩ := hu_int hp
        refine ret_int ?_
        rw [hd_11] at hy5
        have hf5 := hf4.tr hg5
        refine go_wp rfl (wq_icmp_ge (t := 80) dX10_best_73 (by decide) rfl (fun q5 => ?_) (fun q5 => ?_))
        · have q5' : Int32.toInt y4 ≥ Int32.toInt y5 := (ab_ige (x := y4) (y := y5)).1 q5
          refine go_wp rfl (wq_iload_n dX10_best_80 rfl rfl ?_)
          refine go_wp rfl (wq_istore_n (lv' := [some (.ref 76), some (.int w), some (.int b), some (.int i), some (.int (y2 - y3))]) dX10_best_81 ⟨Nat.le_of_ble_eq_true rfl, rfl⟩ rfl rfl ?_)
          refine go_wp rfl (wq_iinc (v := (i + Int32.ofInt 1)) (lv' := [some (.ref 76), some (.int w), some (.int b), some (.int (i + Int32.ofInt 1)), some (.int (y2 - y3))]) dX10_best_82 rfl ⟨Nat.le_of_ble_eq_true rfl, rfl⟩ rfl rfl rfl ?_)
          refine go_wp rfl (wq_goto (t := 32) dX10_best_85 (by decide) ?_)
          have hi := ab_inc (x := i) (by omega) (by omega)
          have he : (y2 - y3) = wr (gi cs 76) (gi cs 80) (gi cs 81) i - wr (gi cs 76) (gi cs 80) (gi cs 81) b := by rw [Int32.toInt_inj.mp hy2, Int32.toInt_inj.mp hy3]
          have en : b2_f (gi cs 76) (gi cs 80) (gi cs 81) (k + 1) = b := by
            show br_n (gi cs 76) (gi cs 80) (gi cs 81) (Int32.ofNat (k + 1)) (b2_f (gi cs 76) (gi cs 80) (gi cs 81) k) = _
            rw [← nx_n hi1, ← hb]
            exact br_0 he hy4 hy5 (by omega)
          exact go_cut rfl ⟨(300 - (i.toInt + 1)).toNat, (by omega), rfl, hk5, hf5, hw, hs0, k + 1, _, _, _, rfl, en.symm, (by omega), (by omega), (by omega)⟩
        · have q5' : Int32.toInt y4 < Int32.toInt y5 := (ab_ige (x := y4) (y := y5)).2 q5
          refine go_wp rfl (wq_iload_n dX10_best_76 rfl rfl ?_)
          refine go_wp rfl (wq_goto (t := 81) dX10_best_77 (by decide) ?_)
          refine go_wp rfl (wq_istore_n (lv' := [some (.ref 76), some (.int w), some (.int i), some (.int i), some (.int (y2 - y3))]) dX10_best_81 ⟨Nat.le_of_ble_eq_true rfl, rfl⟩ rfl rfl ?_)
          refine go_wp rfl (wq_iinc (v := (i + Int32.ofInt 1)) (lv' := [some (.ref 76), some (.int w), some (.int i), some (.int (i + Int32.ofInt 1)), some (.int (y2 - y3))]) dX10_best_82 rfl ⟨Nat.le_of_ble_eq_true rfl, rfl⟩ rfl rfl rfl ?_)
          refine go_wp rfl (wq_goto (t := 32) dX10_best_85 (by decide) ?_)
          have hi := ab_inc (x := i) (by omega) (by omega)
          have he : (y2 - y3) = wr (gi cs 76) (gi cs 80) (gi cs 81) i - wr (gi cs 76) (gi cs 80) (gi cs 81) b := by rw [Int32.toInt_inj.mp hy2, Int32.toInt_inj.mp hy3]
          have en : b2_f (gi cs 76) (gi cs 80) (gi cs 81) (k + 1) = i := by
            show br_n (gi cs 76) (gi cs 80) (gi cs 81) (Int32.ofNat (k + 1)) (b2_f (gi cs 76) (gi cs 80) (gi cs 81) k) = _
            rw [← nx_n hi1, ← hb]
            exact br_1 he hy4 hy5 (by omega)
          exact go_cut rfl ⟨(300 - (i.toInt + 1)).toNat, (by omega), rfl, hk5, hf5, hw, hs0, k + 1, _, _, _, rfl, en.symm, (by omega), (by omega), (by omega)⟩
set_option maxRecDepth 100000 in
set_option maxHeartbeats 4000000 in
theorem rb_w0 {cs : ex_C} {Q : ex_Q} {w : Int32} (hk1 : ab_hk ab_hd cs) (hQ : ∀ (r : Int32) cs', ab_hk ab_hd cs' → ab_fr [(114, none)] cs cs' → r.toInt = (br (gi cs 76) (gi cs 80) (gi cs 81) w) → Q (some (.int r)) cs') : ex_wp ec_xt bx_X10_best cX10_best (some .int) (rb_A w cs) Q 90 0 [some (.ref 76), some (.int w), none, none, none] [] cs := by
  have z0 := ab_z0
  obtain ⟨ms, h76, ml, m0, m4, m39, m5, m6, h80, h81, ⟨M1, M2⟩, ⟨H1, H2⟩, E80, E81⟩ := hu_mod hk1
  refine wq_iload_n dX10_best_0 rfl rfl ?_
  refine go_wp rfl (wq_iconst (v := 0) dX10_best_1 (by decide) rfl ?_)
  refine go_wp rfl (wq_iconst (v := 1) dX10_best_2 (by decide) rfl ?_)
  refine go_wp rfl (wq_static (q := 3) (av := [.int w, .int 0, .int 1]) (r := []) dX10_best_3 rfl rfl (Nat.le_of_ble_eq_true rfl) rfl rfl (Nat.le_of_ble_eq_true rfl) rfl (hx_call 0 (c := ([.inr ((-2147483648), 2147483647), .inr (0, 0), .inr (1, 1)], [], [], [(some (1, 1, none), [((0, 0, 0), 0, 1, none), ((9, 0, 2), (-4294967296), 0, none), ((9, 0, 1), 0, 4294967296, none)], []), (some (0, 0, none), [((0, 0, 0), 2, 2147483647, none), ((9, 0, 2), 1, 4294967296, none), ((9, 0, 1), 0, 4294967296, none)], []), (some (0, 0, none), [((0, 0, 0), (-2147483648), (-1), none), ((9, 0, 1), (-4294967296), (-1), none)], [])])) rfl (hx_pr3 (hx_ci (hx_tb _)) (hx_ci (by decide)) (hx_ci (by decide))) hk1 (fun r cs2 hp => ?_)))
  obtain ⟨hk2, hg2, y, rfl, hy⟩ := hu_i01 hp
  refine ret_int ?_
  obtain ⟨msb, h76b, mlb, m0b, m4b, m39b, m5b, m6b, -⟩ := hu_mod hk2
  rw [show gi cs2 76 0 = gi cs 76 0 from gi_f1 hg2 rfl] at m0b
  rw [show gi cs2 76 4 = gi cs 76 4 from gi_f1 hg2 rfl] at m4b
  rw [show gi cs2 76 39 = gi cs 76 39 from gi_f1 hg2 rfl] at m39b
  refine go_wp rfl (wq_if_ne (t := 15) dX10_best_6 (by decide) rfl (fun q1 => ?_) (fun q1 => ?_))
  · have q1' : Int32.toInt y ≠ Int32.toInt 0 := (ab_ieq (x := y) (y := 0)).2 q1
    refine go_wp rfl (wq_aload_n dX10_best_15 rfl rfl ?_)
    refine go_wp rfl (wq_getfield dX10_best_16 fe_X10_277 h76b m39b rfl ?_)
    refine go_wp rfl (wq_if_ne (t := 28) dX10_best_19 (by decide) rfl (fun q2 => ?_) (fun q2 => ?_))
    · have q2' : Int32.toInt (gi cs 76 39) ≠ Int32.toInt 0 := (ab_ieq (x := (gi cs 76 39)) (y := 0)).2 q2
      refine go_wp rfl (wq_iconst (v := 0) dX10_best_28 (by decide) rfl ?_)
      refine go_wp rfl (wq_istore_n (lv' := [some (.ref 76), some (.int w), some (.int 0), none, none]) dX10_best_29 ⟨Nat.le_of_ble_eq_true rfl, rfl⟩ rfl rfl ?_)
      refine go_wp rfl (wq_iconst (v := 1) dX10_best_30 (by decide) rfl ?_)
      refine go_wp rfl (wq_istore_n (lv' := [some (.ref 76), some (.int w), some (.int 0), some (.int 1), none]) dX10_best_31 ⟨Nat.le_of_ble_eq_true rfl, rfl⟩ rfl rfl ?_)
      have hsh := (hu_sh H1 H2).2
      have z1 := ab_z1
      exact go_cut rfl ⟨299, rfl, hk2, hg2, (by omega), q2', 0, _, _, _, rfl, rfl, (by omega), (by omega), (by omega)⟩
    · have q2' : Int32.toInt (gi cs 76 39) = Int32.toInt 0 := (ab_ieq (x := (gi cs 76 39)) (y := 0)).1 q2
      refine go_wp rfl (wq_aload_n dX10_best_22 rfl rfl ?_)
      refine go_wp rfl (wq_iconst (v := 2) dX10_best_23 (by decide) rfl ?_)
      refine go_wp rfl (wq_virtual (q := 2) (ci := 10) (a := 76) (av := [.ref 76, .int 2]) (r := []) dX10_best_24 rfl (Nat.le_of_ble_eq_true rfl) rfl rfl rfl (Nat.le_of_ble_eq_true rfl) h76b rfl (hx_call 4 (c := ([.inl 76, .inr (2, 2)], [], [(114, some 2)], [(some ((-1000000002), (-1000000002), none), [], [])])) rfl (hx_pr2 hx_cr (hx_ci (by decide))) hk2 (fun r csz hp => ?_)))
      obtain ⟨hkz, hfz, v, rfl, hv⟩ := hx_pin (z := -1000000002) rfl hp
      refine ret_int ?_
      refine go_wp rfl (wq_ireturn dX10_best_27 trivial (hQ _ _ hkz ((hx_fr hg2).tr (hfz.sub (by decide))) (hv.trans (br_no (by omega) q2'))))
  · have q1' : Int32.toInt y = Int32.toInt 0 := (ab_ieq (x := y) (y := 0)).1 q1
    refine go_wp rfl (wq_aload_n dX10_best_9 rfl rfl ?_)
    refine go_wp rfl (wq_iconst (v := 1) dX10_best_10 (by decide) rfl ?_)
    refine go_wp rfl (wq_virtual (q := 2) (ci := 10) (a := 76) (av := [.ref 76, .int 1]) (r := []) dX10_best_11 rfl (Nat.le_of_ble_eq_true rfl) rfl rfl rfl (Nat.le_of_ble_eq_true rfl) h76b rfl (hx_call 1 (c := ([.inl 76, .inr (1, 1)], [], [(114, some 1)], [(some ((-1000000001), (-1000000001), none), [], [])])) rfl (hx_pr2 hx_cr (hx_ci (by decide))) hk2 (fun r csz hp => ?_)))
    obtain ⟨hkz, hfz, v, rfl, hv⟩ := hx_pin (z := -1000000001) rfl hp
    refine ret_int ?_
    refine go_wp rfl (wq_ireturn dX10_best_14 trivial (hQ _ _ hkz ((hx_fr hg2).tr (hfz.sub (by decide))) (hv.trans (br_b (by omega)))))
set_option maxRecDepth 100000 in
theorem bm_X10_best (l : Launch) : ex_Met l yX10_best cX10_best 5 (some .int) 2 50 (ab_sp ab_hd bc_X10_best) := by
  intro D ad ca n sz av cs Q h
  refine ex_lmet (by decide) rfl (bj_X10_best l) D ad ca n sz av cs Q ?_
  obtain ⟨c0, hc0, ⟨hp1, hp2, -⟩, hk, hQ⟩ := h
  have hc' : c0 = ([.inl 76, .inr (-2147483648, 2147483647)], [], [(114, none)], [(some (-2147483648, 2147483647, some (900000034, 0)), [], [])]) := by
    unfold bc_X10_best bq_X10_best at hc0
    simpa using hc0
  subst hc'
  obtain ⟨v0, e0, pz0⟩ := hp2 0 _ rfl
  obtain ⟨v1, e1, w, rfl, w1, w2⟩ := hp2 1 _ rfl
  cases pz0
  have hav : av = [.ref 76, .int w] := hx_av2 hp1 e0 e1
  subst hav
  have hQ' : ∀ (r : Int32) cs', ab_hk ab_hd cs' → ab_fr [(114, none)] cs cs' → r.toInt = (br (gi cs 76) (gi cs 80) (gi cs 81) w) → Q (some (.int r)) cs' := by
    intro r cs' hk' hf' hr
    refine hQ _ _ ⟨hk', hf', _, List.mem_cons_self, ⟨r, rfl, hx_tb r, fun d hd => ?_⟩, fun q hq => (by cases hq), fun q hq => (by cases hq)⟩
    cases hd
    show _ = ab_oo _ _ _ + (0 : Int)
    rw [hg_34, hr]
    omega
  refine sl_in 90 (rb_I w cs) rfl (Nat.le_of_ble_eq_true rfl) rfl (rb_w0 hk hQ') (fun pc J n lv st cs1 hI hJ => ?_)
  unfold rb_I at hI
  split at hI
  · rename_i e'
    subst e'
    cases hI
    obtain ⟨rfl, hk1, hf, hw, hs0, k, b, i, x4, rfl, hb, hi1, hi2, hn⟩ := hJ
    exact rb_w32 hk1 hf hw hs0 hQ' hb hi1 hi2 hn
  · cases hI
theorem ba_X10_suspects : ec_al [(1546, Cond.code yX10_suspects cX10_suspects 1 (some .int)), (68, Cond.initialized yX10_suspects.cls), (1544, Cond.instanceMethod yX10_suspects), (1545, Cond.selects yX10_suspects.cls yX10_suspects yX10_suspects)] := ec_alk (by decide +kernel)
theorem bw_X10_suspects : ec_cw yX10_suspects cX10_suspects 1 (some .int) := ⟨ba_X10_suspects.1, ba_X10_suspects.2.1, nc_RX10⟩
theorem bv_X10_suspects : Cond.instanceMethod yX10_suspects ∈ ec_tb ∧ Cond.selects yX10_suspects.cls yX10_suspects yX10_suspects ∈ ec_tb := ⟨ba_X10_suspects.2.2.1, ba_X10_suspects.2.2.2.1⟩
theorem bp_X10_suspects : (parseMethodDescriptor yX10_suspects.desc).map (fun d => d.parameters.length) = some 0 := by decide +kernel
theorem bj_X10_suspects (l : Launch) : ex_ok l 0 0 bx_X10_suspects := ec_okp fo_X10 co_X10 so_X10 (ec_okn)
theorem bm_X10_suspects (l : Launch) : ex_Met l yX10_suspects cX10_suspects 1 (some .int) 0 0 (ab_sp ab_hd bc_X10_suspects) := ab_met (by decide) pn_RX10 rfl (bj_X10_suspects l) bd_X10_suspects ab_hcm ab_xk bz_X10_suspects
theorem ba_X10_read : ec_al [(1550, Cond.code yX10_read cX10_read 3 (some .int)), (68, Cond.initialized yX10_read.cls), (1548, Cond.instanceMethod yX10_read), (1549, Cond.selects yX10_read.cls yX10_read yX10_read), (1303, Cond.methodLink RX10 171 yX10_isIn), (1282, Cond.methodLink RX10 160 yX10_finding)] := ec_alk (by decide +kernel)
theorem bw_X10_read : ec_cw yX10_read cX10_read 3 (some .int) := ⟨ba_X10_read.1, ba_X10_read.2.1, nc_RX10⟩
theorem bv_X10_read : Cond.instanceMethod yX10_read ∈ ec_tb ∧ Cond.selects yX10_read.cls yX10_read yX10_read ∈ ec_tb := ⟨ba_X10_read.2.2.1, ba_X10_read.2.2.2.1⟩
theorem bp_X10_read : (parseMethodDescriptor yX10_read.desc).map (fun d => d.parameters.length) = some 2 := by decide +kernel
theorem bk_X10_read (l : Launch) : ∀ (ix n : Nat) (rc : Option Nat) (sp : ex_S), (be_X10_read ix).map (fun q => (q.1, q.2.1, ab_sp ab_hd q.2.2)) = some (n, rc, sp) → ex_cok l RX10 1 22 ix n rc sp := by
  intro ix n rc sp h
  obtain ⟨l0, h2, rfl⟩ := ab_dmk h
  clear h
  unfold be_X10_read at h2
  split at h2
  · cases h2; exact ec_cS (bm_X10_isIn l) bw_X10_isIn bv_X10_isIn (by decide) (by decide) (Or.inl ba_X10_read.2.2.2.2.1) bp_X10_isIn
  · cases h2; exact ec_cV (bm_X10_finding l) bw_X10_finding bv_X10_finding (by decide) (by decide) (Or.inl ba_X10_read.2.2.2.2.2.1) (T := TX10) (N := 57) rfl (by decide) bp_X10_finding
  · cases h2
theorem bj_X10_read (l : Launch) : ex_ok l 1 22 bx_X10_read := ec_okp fo_X10 co_X10 so_X10 (bk_X10_read l)
theorem bm_X10_read (l : Launch) : ex_Met l yX10_read cX10_read 3 (some .int) 1 22 (ab_sp ab_hd bc_X10_read) := ab_met (by decide) pn_RX10 rfl (bj_X10_read l) bd_X10_read ab_hcm ab_xk bz_X10_read
theorem ba_X10_calibrate : ec_al [(1554, Cond.code yX10_calibrate cX10_calibrate 3 (some .int)), (68, Cond.initialized yX10_calibrate.cls), (1552, Cond.instanceMethod yX10_calibrate), (1553, Cond.selects yX10_calibrate.cls yX10_calibrate yX10_calibrate), (1303, Cond.methodLink RX10 171 yX10_isIn), (1282, Cond.methodLink RX10 160 yX10_finding)] := ec_alk (by decide +kernel)
theorem bw_X10_calibrate : ec_cw yX10_calibrate cX10_calibrate 3 (some .int) := ⟨ba_X10_calibrate.1, ba_X10_calibrate.2.1, nc_RX10⟩
theorem bv_X10_calibrate : Cond.instanceMethod yX10_calibrate ∈ ec_tb ∧ Cond.selects yX10_calibrate.cls yX10_calibrate yX10_calibrate ∈ ec_tb := ⟨ba_X10_calibrate.2.2.1, ba_X10_calibrate.2.2.2.1⟩
theorem bp_X10_calibrate : (parseMethodDescriptor yX10_calibrate.desc).map (fun d => d.parameters.length) = some 2 := by decide +kernel
theorem bk_X10_calibrate (l : Launch) : ∀ (ix n : Nat) (rc : Option Nat) (sp : ex_S), (be_X10_calibrate ix).map (fun q => (q.1, q.2.1, ab_sp ab_hd q.2.2)) = some (n, rc, sp) → ex_cok l RX10 1 22 ix n rc sp := by
  intro ix n rc sp h
  obtain ⟨l0, h2, rfl⟩ := ab_dmk h
  clear h
  unfold be_X10_calibrate at h2
  split at h2
  · cases h2; exact ec_cS (bm_X10_isIn l) bw_X10_isIn bv_X10_isIn (by decide) (by decide) (Or.inl ba_X10_calibrate.2.2.2.2.1) bp_X10_isIn
  · cases h2; exact ec_cV (bm_X10_finding l) bw_X10_finding bv_X10_finding (by decide) (by decide) (Or.inl ba_X10_calibrate.2.2.2.2.2.1) (T := TX10) (N := 57) rfl (by decide) bp_X10_finding
  · cases h2
theorem bj_X10_calibrate (l : Launch) : ex_ok l 1 22 bx_X10_calibrate := ec_okp fo_X10 co_X10 so_X10 (bk_X10_calibrate l)
theorem bm_X10_calibrate (l : Launch) : ex_Met l yX10_calibrate cX10_calibrate 3 (some .int) 1 22 (ab_sp ab_hd bc_X10_calibrate) := ab_met (by decide) pn_RX10 rfl (bj_X10_calibrate l) bd_X10_calibrate ab_hcm ab_xk bz_X10_calibrate
theorem ba_X10_tooMuch : ec_al [(1562, Cond.code yX10_tooMuch cX10_tooMuch 6 (some .int)), (68, Cond.initialized yX10_tooMuch.cls), (1561, Cond.instanceMethod yX10_tooMuch), (56, Cond.selects yX10_tooMuch.cls yX10_tooMuch yX10_tooMuch)] := ec_alk (by decide +kernel)
theorem bw_X10_tooMuch : ec_cw yX10_tooMuch cX10_tooMuch 6 (some .int) := ⟨ba_X10_tooMuch.1, ba_X10_tooMuch.2.1, nc_RX10⟩
theorem bv_X10_tooMuch : Cond.instanceMethod yX10_tooMuch ∈ ec_tb ∧ Cond.selects yX10_tooMuch.cls yX10_tooMuch yX10_tooMuch ∈ ec_tb := ⟨ba_X10_tooMuch.2.2.1, ba_X10_tooMuch.2.2.2.1⟩
theorem bp_X10_tooMuch : (parseMethodDescriptor yX10_tooMuch.desc).map (fun d => d.parameters.length) = some 2 := by decide +kernel
theorem bj_X10_tooMuch (l : Launch) : ex_ok l 0 0 bx_X10_tooMuch := ec_okp fo_X10 co_X10 so_X10 (ec_okn)
theorem dX10_tooMuch_0 : decode cX10_tooMuch 0 = .ok (.iconst (-1), 1) := by decide +kernel
theorem dX10_tooMuch_1 : decode cX10_tooMuch 1 = .ok (.istore_n 3, 1) := by decide +kernel
theorem dX10_tooMuch_2 : decode cX10_tooMuch 2 = .ok (.iconst (-1), 1) := by decide +kernel
theorem dX10_tooMuch_3 : decode cX10_tooMuch 3 = .ok (.istore 4, 2) := by decide +kernel
theorem dX10_tooMuch_5 : decode cX10_tooMuch 5 = .ok (.iconst 0, 1) := by decide +kernel
theorem dX10_tooMuch_6 : decode cX10_tooMuch 6 = .ok (.istore 5, 2) := by decide +kernel
theorem dX10_tooMuch_8 : decode cX10_tooMuch 8 = .ok (.iload 5, 2) := by decide +kernel
theorem dX10_tooMuch_10 : decode cX10_tooMuch 10 = .ok (.aload_n 0, 1) := by decide +kernel
theorem dX10_tooMuch_11 : decode cX10_tooMuch 11 = .ok (.getfield 292, 3) := by decide +kernel
theorem dX10_tooMuch_14 : decode cX10_tooMuch 14 = .ok (.if_icmp .ge 80, 3) := by decide +kernel
theorem dX10_tooMuch_17 : decode cX10_tooMuch 17 = .ok (.aload_n 0, 1) := by decide +kernel
theorem dX10_tooMuch_18 : decode cX10_tooMuch 18 = .ok (.getfield 122, 3) := by decide +kernel
theorem dX10_tooMuch_21 : decode cX10_tooMuch 21 = .ok (.iload 5, 2) := by decide +kernel
theorem dX10_tooMuch_23 : decode cX10_tooMuch 23 = .ok (.iaload, 1) := by decide +kernel
theorem dX10_tooMuch_24 : decode cX10_tooMuch 24 = .ok (.iload_n 1, 1) := by decide +kernel
theorem dX10_tooMuch_25 : decode cX10_tooMuch 25 = .ok (.if_icmp .ne 63, 3) := by decide +kernel
theorem dX10_tooMuch_28 : decode cX10_tooMuch 28 = .ok (.aload_n 0, 1) := by decide +kernel
theorem dX10_tooMuch_29 : decode cX10_tooMuch 29 = .ok (.getfield 125, 3) := by decide +kernel
theorem dX10_tooMuch_32 : decode cX10_tooMuch 32 = .ok (.iload 5, 2) := by decide +kernel
theorem dX10_tooMuch_34 : decode cX10_tooMuch 34 = .ok (.iaload, 1) := by decide +kernel
theorem dX10_tooMuch_35 : decode cX10_tooMuch 35 = .ok (.iload_n 2, 1) := by decide +kernel
theorem dX10_tooMuch_36 : decode cX10_tooMuch 36 = .ok (.if_icmp .gt 8, 3) := by decide +kernel
theorem dX10_tooMuch_39 : decode cX10_tooMuch 39 = .ok (.iload 5, 2) := by decide +kernel
theorem dX10_tooMuch_41 : decode cX10_tooMuch 41 = .ok (.goto 4, 3) := by decide +kernel
theorem dX10_tooMuch_44 : decode cX10_tooMuch 44 = .ok (.iload_n 3, 1) := by decide +kernel
theorem dX10_tooMuch_45 : decode cX10_tooMuch 45 = .ok (.istore_n 3, 1) := by decide +kernel
theorem dX10_tooMuch_46 : decode cX10_tooMuch 46 = .ok (.aload_n 0, 1) := by decide +kernel
theorem dX10_tooMuch_47 : decode cX10_tooMuch 47 = .ok (.getfield 125, 3) := by decide +kernel
theorem dX10_tooMuch_50 : decode cX10_tooMuch 50 = .ok (.iload 5, 2) := by decide +kernel
theorem dX10_tooMuch_52 : decode cX10_tooMuch 52 = .ok (.iaload, 1) := by decide +kernel
theorem dX10_tooMuch_53 : decode cX10_tooMuch 53 = .ok (.iload_n 2, 1) := by decide +kernel
theorem dX10_tooMuch_54 : decode cX10_tooMuch 54 = .ok (.if_icmp .le 30, 3) := by decide +kernel
theorem dX10_tooMuch_57 : decode cX10_tooMuch 57 = .ok (.iload 4, 2) := by decide +kernel
theorem dX10_tooMuch_59 : decode cX10_tooMuch 59 = .ok (.ifCond .lt 20, 3) := by decide +kernel
theorem dX10_tooMuch_62 : decode cX10_tooMuch 62 = .ok (.aload_n 0, 1) := by decide +kernel
theorem dX10_tooMuch_63 : decode cX10_tooMuch 63 = .ok (.getfield 125, 3) := by decide +kernel
theorem dX10_tooMuch_66 : decode cX10_tooMuch 66 = .ok (.iload 5, 2) := by decide +kernel
theorem dX10_tooMuch_68 : decode cX10_tooMuch 68 = .ok (.iaload, 1) := by decide +kernel
theorem dX10_tooMuch_69 : decode cX10_tooMuch 69 = .ok (.aload_n 0, 1) := by decide +kernel
theorem dX10_tooMuch_70 : decode cX10_tooMuch 70 = .ok (.getfield 125, 3) := by decide +kernel
theorem dX10_tooMuch_73 : decode cX10_tooMuch 73 = .ok (.iload 4, 2) := by decide +kernel
theorem dX10_tooMuch_75 : decode cX10_tooMuch 75 = .ok (.iaload, 1) := by decide +kernel
theorem dX10_tooMuch_76 : decode cX10_tooMuch 76 = .ok (.if_icmp .ne 8, 3) := by decide +kernel
theorem dX10_tooMuch_79 : decode cX10_tooMuch 79 = .ok (.iload 5, 2) := by decide +kernel
theorem dX10_tooMuch_81 : decode cX10_tooMuch 81 = .ok (.goto 5, 3) := by decide +kernel
theorem dX10_tooMuch_84 : decode cX10_tooMuch 84 = .ok (.iload 4, 2) := by decide +kernel
theorem dX10_tooMuch_86 : decode cX10_tooMuch 86 = .ok (.istore 4, 2) := by decide +kernel
theorem dX10_tooMuch_88 : decode cX10_tooMuch 88 = .ok (.iinc 5 1, 3) := by decide +kernel
theorem dX10_tooMuch_91 : decode cX10_tooMuch 91 = .ok (.goto (-83), 3) := by decide +kernel
theorem dX10_tooMuch_94 : decode cX10_tooMuch 94 = .ok (.iload_n 3, 1) := by decide +kernel
theorem dX10_tooMuch_95 : decode cX10_tooMuch 95 = .ok (.ifCond .lt 8, 3) := by decide +kernel
theorem dX10_tooMuch_98 : decode cX10_tooMuch 98 = .ok (.iload 4, 2) := by decide +kernel
theorem dX10_tooMuch_100 : decode cX10_tooMuch 100 = .ok (.ifCond .ge 33, 3) := by decide +kernel
theorem dX10_tooMuch_103 : decode cX10_tooMuch 103 = .ok (.iload_n 3, 1) := by decide +kernel
theorem dX10_tooMuch_104 : decode cX10_tooMuch 104 = .ok (.ifCond .lt 12, 3) := by decide +kernel
theorem dX10_tooMuch_107 : decode cX10_tooMuch 107 = .ok (.aload_n 0, 1) := by decide +kernel
theorem dX10_tooMuch_108 : decode cX10_tooMuch 108 = .ok (.getfield 128, 3) := by decide +kernel
theorem dX10_tooMuch_111 : decode cX10_tooMuch 111 = .ok (.iload_n 3, 1) := by decide +kernel
theorem dX10_tooMuch_112 : decode cX10_tooMuch 112 = .ok (.iaload, 1) := by decide +kernel
theorem dX10_tooMuch_113 : decode cX10_tooMuch 113 = .ok (.goto 19, 3) := by decide +kernel
theorem dX10_tooMuch_116 : decode cX10_tooMuch 116 = .ok (.iload 4, 2) := by decide +kernel
theorem dX10_tooMuch_118 : decode cX10_tooMuch 118 = .ok (.ifCond .lt 13, 3) := by decide +kernel
theorem dX10_tooMuch_121 : decode cX10_tooMuch 121 = .ok (.aload_n 0, 1) := by decide +kernel
theorem dX10_tooMuch_122 : decode cX10_tooMuch 122 = .ok (.getfield 128, 3) := by decide +kernel
theorem dX10_tooMuch_125 : decode cX10_tooMuch 125 = .ok (.iload 4, 2) := by decide +kernel
theorem dX10_tooMuch_127 : decode cX10_tooMuch 127 = .ok (.iaload, 1) := by decide +kernel
theorem dX10_tooMuch_128 : decode cX10_tooMuch 128 = .ok (.goto 4, 3) := by decide +kernel
theorem dX10_tooMuch_131 : decode cX10_tooMuch 131 = .ok (.iconst 0, 1) := by decide +kernel
theorem dX10_tooMuch_132 : decode cX10_tooMuch 132 = .ok (.ireturn, 1) := by decide +kernel
theorem dX10_tooMuch_133 : decode cX10_tooMuch 133 = .ok (.aload_n 0, 1) := by decide +kernel
theorem dX10_tooMuch_134 : decode cX10_tooMuch 134 = .ok (.getfield 128, 3) := by decide +kernel
theorem dX10_tooMuch_137 : decode cX10_tooMuch 137 = .ok (.iload_n 3, 1) := by decide +kernel
theorem dX10_tooMuch_138 : decode cX10_tooMuch 138 = .ok (.iaload, 1) := by decide +kernel
theorem dX10_tooMuch_139 : decode cX10_tooMuch 139 = .ok (.aload_n 0, 1) := by decide +kernel
theorem dX10_tooMuch_140 : decode cX10_tooMuch 140 = .ok (.getfield 128, 3) := by decide +kernel
theorem dX10_tooMuch_143 : decode cX10_tooMuch 143 = .ok (.iload 4, 2) := by decide +kernel
theorem dX10_tooMuch_145 : decode cX10_tooMuch 145 = .ok (.iaload, 1) := by decide +kernel
theorem dX10_tooMuch_146 : decode cX10_tooMuch 146 = .ok (.aload_n 0, 1) := by decide +kernel
theorem dX10_tooMuch_147 : decode cX10_tooMuch 147 = .ok (.getfield 128, 3) := by decide +kernel
theorem dX10_tooMuch_150 : decode cX10_tooMuch 150 = .ok (.iload_n 3, 1) := by decide +kernel
theorem dX10_tooMuch_151 : decode cX10_tooMuch 151 = .ok (.iaload, 1) := by decide +kernel
theorem dX10_tooMuch_152 : decode cX10_tooMuch 152 = .ok (.isub, 1) := by decide +kernel
theorem dX10_tooMuch_153 : decode cX10_tooMuch 153 = .ok (.iload_n 2, 1) := by decide +kernel
theorem dX10_tooMuch_154 : decode cX10_tooMuch 154 = .ok (.aload_n 0, 1) := by decide +kernel
theorem dX10_tooMuch_155 : decode cX10_tooMuch 155 = .ok (.getfield 125, 3) := by decide +kernel
theorem dX10_tooMuch_158 : decode cX10_tooMuch 158 = .ok (.iload_n 3, 1) := by decide +kernel
theorem dX10_tooMuch_159 : decode cX10_tooMuch 159 = .ok (.iaload, 1) := by decide +kernel
theorem dX10_tooMuch_160 : decode cX10_tooMuch 160 = .ok (.isub, 1) := by decide +kernel
theorem dX10_tooMuch_161 : decode cX10_tooMuch 161 = .ok (.imul, 1) := by decide +kernel
theorem dX10_tooMuch_162 : decode cX10_tooMuch 162 = .ok (.aload_n 0, 1) := by decide +kernel
theorem dX10_tooMuch_163 : decode cX10_tooMuch 163 = .ok (.getfield 125, 3) := by decide +kernel
theorem dX10_tooMuch_166 : decode cX10_tooMuch 166 = .ok (.iload 4, 2) := by decide +kernel
theorem dX10_tooMuch_168 : decode cX10_tooMuch 168 = .ok (.iaload, 1) := by decide +kernel
theorem dX10_tooMuch_169 : decode cX10_tooMuch 169 = .ok (.aload_n 0, 1) := by decide +kernel
theorem dX10_tooMuch_170 : decode cX10_tooMuch 170 = .ok (.getfield 125, 3) := by decide +kernel
theorem dX10_tooMuch_173 : decode cX10_tooMuch 173 = .ok (.iload_n 3, 1) := by decide +kernel
theorem dX10_tooMuch_174 : decode cX10_tooMuch 174 = .ok (.iaload, 1) := by decide +kernel
theorem dX10_tooMuch_175 : decode cX10_tooMuch 175 = .ok (.isub, 1) := by decide +kernel
theorem dX10_tooMuch_176 : decode cX10_tooMuch 176 = .ok (.idiv, 1) := by decide +kernel
theorem dX10_tooMuch_177 : decode cX10_tooMuch 177 = .ok (.iadd, 1) := by decide +kernel
theorem dX10_tooMuch_178 : decode cX10_tooMuch 178 = .ok (.ireturn, 1) := by decide +kernel
def tm_B (t x : Int32) (f : Nat → Int32) : Prop := x.toInt = -1 ∨ (0 ≤ x.toInt ∧ x.toInt ≤ 19 ∧ (f x.toNatClampNeg).toInt ≤ t.toInt)
def tm_A (t x : Int32) (f : Nat → Int32) : Prop := x.toInt = -1 ∨ (0 ≤ x.toInt ∧ x.toInt ≤ 19 ∧ t.toInt < (f x.toNatClampNeg).toInt)
theorem tm_B.lo {t x : Int32} {f : Nat → Int32} (h : tm_B t x f) : -1 ≤ x.toInt ∧ x.toInt ≤ 19 := by
  rcases h with h | h <;> omega
theorem tm_A.lo {t x : Int32} {f : Nat → Int32} (h : tm_A t x f) : -1 ≤ x.toInt ∧ x.toInt ≤ 19 := by
  rcases h with h | h <;> omega
theorem tm_ne {t x y : Int32} {f : Nat → Int32} (h : tm_B t x f) (h' : tm_A t y f) (hx : 0 ≤ x.toInt) (hy : 0 ≤ y.toInt) : ¬ (f y.toNatClampNeg).toInt = (f x.toNatClampNeg).toInt := by
  rcases h with h | h <;> rcases h' with h' | h' <;> omega
def tm_J (s t : Int32) (f : Nat → Int32) (cs0 : ex_C) : Nat → ex_L → ex_V → ex_C → Prop := fun n lv st cs => st = [] ∧ cs = cs0 ∧ ∃ (ah be k : Int32), lv = [some (.ref 76), some (.int s), some (.int t), some (.int ah), some (.int be), some (.int k)] ∧ tm_B t ah f ∧ tm_A t be f ∧ 0 ≤ k.toInt ∧ k.toInt ≤ 20 ∧ (n : Int) = 20 - k.toInt
def tm_I (s t : Int32) (f : Nat → Int32) (cs0 : ex_C) (pc : Nat) : Option (Nat → ex_L → ex_V → ex_C → Prop) := if pc = 8 then some (tm_J s t f cs0) else none
def tm_Bn (s t : Int32) (f : Nat → Int32) (cs0 : ex_C) (n : Nat) : Nat → Option (ex_L → ex_V → ex_C → Prop) := fun pc => (tm_I s t f cs0 pc).map (fun J' lv st cs => ∃ n', n' < n ∧ J' n' lv st cs)
def tm_An (s t : Int32) (f : Nat → Int32) (cs0 : ex_C) : Nat → Option (ex_L → ex_V → ex_C → Prop) := fun pc => (tm_I s t f cs0 pc).map (fun J' lv st cs => ∃ n', J' n' lv st cs)
set_option maxRecDepth 100000 in
set_option maxHeartbeats 4000000 in
theorem tm_w8 {s t cal : Int32} {f g e : Nat → Int32} {cs : ex_C} {fs : List Value} {Q : ex_Q} (h76 : cs[76]? = some (.inr (10, fs))) (hs_calibrations : fs[45]? = some (.int cal)) (hs_calAt : fs[47]? = some (.ref 111)) (hs_calSensor : fs[46]? = some (.ref 110)) (hs_over : fs[48]? = some (.ref 112)) (hf : cs[111]? = some (.inl (0, 20, .inl f))) (hg : cs[110]? = some (.inl (0, 20, .inl g))) (he : cs[112]? = some (.inl (0, 20, .inl e))) (hh1 : 0 ≤ cal.toInt) (hh2 : cal.toInt ≤ 20) (hQ : ∀ r, Q (some (.int r)) cs) {n : Nat} {ah be k : Int32} (b1 : tm_B t ah f) (b2 : tm_A t be f) (b3 : 0 ≤ k.toInt) (b4 : k.toInt ≤ 20) (hn : (n : Int) = 20 - k.toInt) : ex_wp ec_xt bx_X10_tooMuch cX10_tooMuch (some .int) (tm_Bn s t f cs n) Q 90 8 [some (.ref 76), some (.int s), some (.int t), some (.int ah), some (.int be), some (.int k)] [] cs := by
  have z0 := ab_z0
  have b1l := b1.lo
  have b2l := b2.lo
  refine wq_iload dX10_tooMuch_8 rfl rfl ?_
  refine go_wp rfl (wq_aload_n dX10_tooMuch_10 rfl rfl ?_)
  refine go_wp rfl (wq_getfield dX10_tooMuch_11 fe_X10_292 h76 hs_calibrations rfl ?_)
  refine go_wp rfl (wq_icmp_ge (t := 94) dX10_tooMuch_14 (by decide) rfl (fun q1 => ?_) (fun q1 => ?_))
  · have q1' : Int32.toInt k ≥ Int32.toInt cal := (ab_ige (x := k) (y := cal)).1 q1
    refine go_wp rfl (wq_iload_n dX10_tooMuch_94 rfl rfl ?_)
    refine go_wp rfl (wq_if_lt (t := 103) dX10_tooMuch_95 (by decide) rfl (fun q2 => ?_) (fun q2 => ?_))
    · have q2' : Int32.toInt ah < Int32.toInt 0 := (ab_ilt (x := ah) (y := 0)).1 q2
      refine go_wp rfl (wq_iload_n dX10_tooMuch_103 rfl rfl ?_)
      refine go_wp rfl (wq_if_lt (t := 116) dX10_tooMuch_104 (by decide) rfl (fun q3 => ?_) (fun q3 => ?_))
      · have q3' : Int32.toInt ah < Int32.toInt 0 := (ab_ilt (x := ah) (y := 0)).1 q3
        refine go_wp rfl (wq_iload dX10_tooMuch_116 rfl rfl ?_)
        refine go_wp rfl (wq_if_lt (t := 131) dX10_tooMuch_118 (by decide) rfl (fun q4 => ?_) (fun q4 => ?_))
        · have q4' : Int32.toInt be < Int32.toInt 0 := (ab_ilt (x := be) (y := 0)).1 q4
          refine go_wp rfl (wq_iconst (v := 0) dX10_tooMuch_131 (by decide) rfl ?_)
          refine go_wp rfl (wq_ireturn dX10_tooMuch_132 trivial (hQ _))
        · have q4' : Int32.toInt be ≥ Int32.toInt 0 := (ab_ilt (x := be) (y := 0)).2 q4
          refine go_wp rfl (wq_aload_n dX10_tooMuch_121 rfl rfl ?_)
          refine go_wp rfl (wq_getfield dX10_tooMuch_122 fe_X10_128 h76 hs_over rfl ?_)
          refine go_wp rfl (wq_iload dX10_tooMuch_125 rfl rfl ?_)
          refine go_wp rfl (wq_iaload (v := (e be.toNatClampNeg)) dX10_tooMuch_127 (by decide) he (vp_mk (by omega) (by omega)) rfl rfl ?_)
          refine go_wp rfl (wq_goto (t := 132) dX10_tooMuch_128 (by decide) ?_)
          refine go_wp rfl (wq_ireturn dX10_tooMuch_132 trivial (hQ _))
      · have q3' : Int32.toInt ah ≥ Int32.toInt 0 := (ab_ilt (x := ah) (y := 0)).2 q3
        refine go_wp rfl (wq_aload_n dX10_tooMuch_107 rfl rfl ?_)
        refine go_wp rfl (wq_getfield dX10_tooMuch_108 fe_X10_128 h76 hs_over rfl ?_)
        refine go_wp rfl (wq_iload_n dX10_tooMuch_111 rfl rfl ?_)
        refine go_wp rfl (wq_iaload (v := (e ah.toNatClampNeg)) dX10_tooMuch_112 (by decide) he (vp_mk (by omega) (by omega)) rfl rfl ?_)
        refine go_wp rfl (wq_goto (t := 132) dX10_tooMuch_113 (by decide) ?_)
        refine go_wp rfl (wq_ireturn dX10_tooMuch_132 trivial (hQ _))
    · have q2' : Int32.toInt ah ≥ Int32.toInt 0 := (ab_ilt (x := ah) (y := 0)).2 q2
      refine go_wp rfl (wq_iload dX10_tooMuch_98 rfl rfl ?_)
      refine go_wp rfl (wq_if_ge (t := 133) dX10_tooMuch_100 (by decide) rfl (fun q5 => ?_) (fun q5 => ?_))
      · have q5' : Int32.toInt be ≥ Int32.toInt 0 := (ab_ige (x := be) (y := 0)).1 q5
        refine go_wp rfl (wq_aload_n dX10_tooMuch_133 rfl rfl ?_)
        refine go_wp rfl (wq_getfield dX10_tooMuch_134 fe_X10_128 h76 hs_over rfl ?_)
        refine go_wp rfl (wq_iload_n dX10_tooMuch_137 rfl rfl ?_)
        refine go_wp rfl (wq_iaload (v := (e ah.toNatClampNeg)) dX10_tooMuch_138 (by decide) he (vp_mk (by omega) (by omega)) rfl rfl ?_)
        refine go_wp rfl (wq_aload_n dX10_tooMuch_139 rfl rfl ?_)
        refine go_wp rfl (wq_getfield dX10_tooMuch_140 fe_X10_128 h76 hs_over rfl ?_)
        refine go_wp rfl (wq_iload dX10_tooMuch_143 rfl rfl ?_)
        refine go_wp rfl (wq_iaload (v := (e be.toNatClampNeg)) dX10_tooMuch_145 (by decide) he (vp_mk (by omega) (by omega)) rfl rfl ?_)
        refine go_wp rfl (wq_aload_n dX10_tooMuch_146 rfl rfl ?_)
        refine go_wp rfl (wq_getfield dX10_tooMuch_147 fe_X10_128 h76 hs_over rfl ?_)
        refine go_wp rfl (wq_iload_n dX10_tooMuch_150 rfl rfl ?_)
        refine go_wp rfl (wq_iaload (v := (e ah.toNatClampNeg)) dX10_tooMuch_151 (by decide) he (vp_mk (by omega) (by omega)) rfl rfl ?_)
        refine go_wp rfl (wq_isub (v := ((e be.toNatClampNeg) - (e ah.toNatClampNeg))) dX10_tooMuch_152 rfl rfl ?_)
        refine go_wp rfl (wq_iload_n dX10_tooMuch_153 rfl rfl ?_)
        refine go_wp rfl (wq_aload_n dX10_tooMuch_154 rfl rfl ?_)
        refine go_wp rfl (wq_getfield dX10_tooMuch_155 fe_X10_125 h76 hs_calAt rfl ?_)
        refine go_wp rfl (wq_iload_n dX10_tooMuch_158 rfl rfl ?_)
        refine go_wp rfl (wq_iaload (v := (f ah.toNatClampNeg)) dX10_tooMuch_159 (by decide) hf (vp_mk (by omega) (by omega)) rfl rfl ?_)
        refine go_wp rfl (wq_isub (v := (t - (f ah.toNatClampNeg))) dX10_tooMuch_160 rfl rfl ?_)
        refine go_wp rfl (wq_imul (v := (((e be.toNatClampNeg) - (e ah.toNatClampNeg)) * (t - (f ah.toNatClampNeg)))) dX10_tooMuch_161 rfl rfl ?_)
        refine go_wp rfl (wq_aload_n dX10_tooMuch_162 rfl rfl ?_)
        refine go_wp rfl (wq_getfield dX10_tooMuch_163 fe_X10_125 h76 hs_calAt rfl ?_)
        refine go_wp rfl (wq_iload dX10_tooMuch_166 rfl rfl ?_)
        refine go_wp rfl (wq_iaload (v := (f be.toNatClampNeg)) dX10_tooMuch_168 (by decide) hf (vp_mk (by omega) (by omega)) rfl rfl ?_)
        refine go_wp rfl (wq_aload_n dX10_tooMuch_169 rfl rfl ?_)
        refine go_wp rfl (wq_getfield dX10_tooMuch_170 fe_X10_125 h76 hs_calAt rfl ?_)
        refine go_wp rfl (wq_iload_n dX10_tooMuch_173 rfl rfl ?_)
        refine go_wp rfl (wq_iaload (v := (f ah.toNatClampNeg)) dX10_tooMuch_174 (by decide) hf (vp_mk (by omega) (by omega)) rfl rfl ?_)
        refine go_wp rfl (wq_isub (v := ((f be.toNatClampNeg) - (f ah.toNatClampNeg))) dX10_tooMuch_175 rfl rfl ?_)
        refine go_wp rfl (wq_idiv (v := ((((e be.toNatClampNeg) - (e ah.toNatClampNeg)) * (t - (f ah.toNatClampNeg))) / ((f be.toNatClampNeg) - (f ah.toNatClampNeg)))) dX10_tooMuch_176 (ab_sub0 (tm_ne b1 b2 (by omega) (by omega))) rfl rfl ?_)
        refine go_wp rfl (wq_iadd (v := ((e ah.toNatClampNeg) + ((((e be.toNatClampNeg) - (e ah.toNatClampNeg)) * (t - (f ah.toNatClampNeg))) / ((f be.toNatClampNeg) - (f ah.toNatClampNeg))))) dX10_tooMuch_177 rfl rfl ?_)
        refine go_wp rfl (wq_ireturn dX10_tooMuch_178 trivial (hQ _))
      · have q5' : Int32.toInt be < Int32.toInt 0 := (ab_ige (x := be) (y := 0)).2 q5
        refine go_wp rfl (wq_iload_n dX10_tooMuch_103 rfl rfl ?_)
        refine go_wp rfl (wq_if_lt (t := 116) dX10_tooMuch_104 (by decide) rfl (fun q6 => ?_) (fun q6 => ?_))
        · have q6' : Int32.toInt ah < Int32.toInt 0 := (ab_ilt (x := ah) (y := 0)).1 q6
          refine go_wp rfl (wq_iload dX10_tooMuch_116 rfl rfl ?_)
          refine go_wp rfl (wq_if_lt (t := 131) dX10_tooMuch_118 (by decide) rfl (fun q7 => ?_) (fun q7 => ?_))
          · have q7' : Int32.toInt be < Int32.toInt 0 := (ab_ilt (x := be) (y := 0)).1 q7
            refine go_wp rfl (wq_iconst (v := 0) dX10_tooMuch_131 (by decide) rfl ?_)
            refine go_wp rfl (wq_ireturn dX10_tooMuch_132 trivial (hQ _))
          · have q7' : Int32.toInt be ≥ Int32.toInt 0 := (ab_ilt (x := be) (y := 0)).2 q7
            refine go_wp rfl (wq_aload_n dX10_tooMuch_121 rfl rfl ?_)
            refine go_wp rfl (wq_getfield dX10_tooMuch_122 fe_X10_128 h76 hs_over rfl ?_)
            refine go_wp rfl (wq_iload dX10_tooMuch_125 rfl rfl ?_)
            refine go_wp rfl (wq_iaload (v := (e be.toNatClampNeg)) dX10_tooMuch_127 (by decide) he (vp_mk (by omega) (by omega)) rfl rfl ?_)
            refine go_wp rfl (wq_goto (t := 132) dX10_tooMuch_128 (by decide) ?_)
            refine go_wp rfl (wq_ireturn dX10_tooMuch_132 trivial (hQ _))
        · have q6' : Int32.toInt ah ≥ Int32.toInt 0 := (ab_ilt (x := ah) (y := 0)).2 q6
          refine go_wp rfl (wq_aload_n dX10_tooMuch_107 rfl rfl ?_)
          refine go_wp rfl (wq_getfield dX10_tooMuch_108 fe_X10_128 h76 hs_over rfl ?_)
          refine go_wp rfl (wq_iload_n dX10_tooMuch_111 rfl rfl ?_)
          refine go_wp rfl (wq_iaload (v := (e ah.toNatClampNeg)) dX10_tooMuch_112 (by decide) he (vp_mk (by omega) (by omega)) rfl rfl ?_)
          refine go_wp rfl (wq_goto (t := 132) dX10_tooMuch_113 (by decide) ?_)
          refine go_wp rfl (wq_ireturn dX10_tooMuch_132 trivial (hQ _))
  · have q1' : Int32.toInt k < Int32.toInt cal := (ab_ige (x := k) (y := cal)).2 q1
    refine go_wp rfl (wq_aload_n dX10_tooMuch_17 rfl rfl ?_)
    refine go_wp rfl (wq_getfield dX10_tooMuch_18 fe_X10_122 h76 hs_calSensor rfl ?_)
    refine go_wp rfl (wq_iload dX10_tooMuch_21 rfl rfl ?_)
    refine go_wp rfl (wq_iaload (v := (g k.toNatClampNeg)) dX10_tooMuch_23 (by decide) hg (vp_mk (by omega) (by omega)) rfl rfl ?_)
    refine go_wp rfl (wq_iload_n dX10_tooMuch_24 rfl rfl ?_)
    refine go_wp rfl (wq_icmp_ne (t := 88) dX10_tooMuch_25 (by decide) rfl (fun q8 => ?_) (fun q8 => ?_))
    · have q8' : Int32.toInt (g k.toNatClampNeg) ≠ Int32.toInt s := (ab_ieq (x := (g k.toNatClampNeg)) (y := s)).2 q8
      refine go_wp rfl (wq_iinc (v := (k + Int32.ofInt 1)) (lv' := [some (.ref 76), some (.int s), some (.int t), some (.int ah), some (.int be), some (.int (k + Int32.ofInt 1))]) dX10_tooMuch_88 rfl ⟨Nat.le_of_ble_eq_true rfl, rfl⟩ rfl rfl rfl ?_)
      refine go_wp rfl (wq_goto (t := 8) dX10_tooMuch_91 (by decide) ?_)
      have hi := ab_inc (x := k) (by omega) (by omega)
      exact go_cut rfl ⟨_, (show 20 - (k.toInt.toNat + 1) < n by omega), rfl, rfl, _, _, _, rfl, b1, b2, (by omega), (by omega), (by omega)⟩
    · have q8' : Int32.toInt (g k.toNatClampNeg) = Int32.toInt s := (ab_ieq (x := (g k.toNatClampNeg)) (y := s)).1 q8
      refine go_wp rfl (wq_aload_n dX10_tooMuch_28 rfl rfl ?_)
      refine go_wp rfl (wq_getfield dX10_tooMuch_29 fe_X10_125 h76 hs_calAt rfl ?_)
      refine go_wp rfl (wq_iload dX10_tooMuch_32 rfl rfl ?_)
      refine go_wp rfl (wq_iaload (v := (f k.toNatClampNeg)) dX10_tooMuch_34 (by decide) hf (vp_mk (by omega) (by omega)) rfl rfl ?_)
      refine go_wp rfl (wq_iload_n dX10_tooMuch_35 rfl rfl ?_)
      refine go_wp rfl (wq_icmp_gt (t := 44) dX10_tooMuch_36 (by decide) rfl (fun q9 => ?_) (fun q9 => ?_))
      · have q9' : Int32.toInt (f k.toNatClampNeg) > Int32.toInt t := (ab_igt (x := (f k.toNatClampNeg)) (y := t)).1 q9
        refine go_wp rfl (wq_iload_n dX10_tooMuch_44 rfl rfl ?_)
        refine go_wp rfl (wq_istore_n (lv' := [some (.ref 76), some (.int s), some (.int t), some (.int ah), some (.int be), some (.int k)]) dX10_tooMuch_45 ⟨Nat.le_of_ble_eq_true rfl, rfl⟩ rfl rfl ?_)
        refine go_wp rfl (wq_aload_n dX10_tooMuch_46 rfl rfl ?_)
        refine go_wp rfl (wq_getfield dX10_tooMuch_47 fe_X10_125 h76 hs_calAt rfl ?_)
        refine go_wp rfl (wq_iload dX10_tooMuch_50 rfl rfl ?_)
        refine go_wp rfl (wq_iaload (v := (f k.toNatClampNeg)) dX10_tooMuch_52 (by decide) hf (vp_mk (by omega) (by omega)) rfl rfl ?_)
        refine go_wp rfl (wq_iload_n dX10_tooMuch_53 rfl rfl ?_)
        refine go_wp rfl (wq_icmp_le (t := 84) dX10_tooMuch_54 (by decide) rfl (fun q10 => ?_) (fun q10 => ?_))
        · have q10' : Int32.toInt (f k.toNatClampNeg) ≤ Int32.toInt t := (ab_ile (x := (f k.toNatClampNeg)) (y := t)).1 q10
          refine go_wp rfl (wq_iload dX10_tooMuch_84 rfl rfl ?_)
          refine go_wp rfl (wq_istore (lv' := [some (.ref 76), some (.int s), some (.int t), some (.int ah), some (.int be), some (.int k)]) dX10_tooMuch_86 ⟨Nat.le_of_ble_eq_true rfl, rfl⟩ rfl rfl ?_)
          refine go_wp rfl (wq_iinc (v := (k + Int32.ofInt 1)) (lv' := [some (.ref 76), some (.int s), some (.int t), some (.int ah), some (.int be), some (.int (k + Int32.ofInt 1))]) dX10_tooMuch_88 rfl ⟨Nat.le_of_ble_eq_true rfl, rfl⟩ rfl rfl rfl ?_)
          refine go_wp rfl (wq_goto (t := 8) dX10_tooMuch_91 (by decide) ?_)
          have hi := ab_inc (x := k) (by omega) (by omega)
          exact go_cut rfl ⟨_, (show 20 - (k.toInt.toNat + 1) < n by omega), rfl, rfl, _, _, _, rfl, b1, b2, (by omega), (by omega), (by omega)⟩
        · have q10' : Int32.toInt (f k.toNatClampNeg) > Int32.toInt t := (ab_ile (x := (f k.toNatClampNeg)) (y := t)).2 q10
          refine go_wp rfl (wq_iload dX10_tooMuch_57 rfl rfl ?_)
          refine go_wp rfl (wq_if_lt (t := 79) dX10_tooMuch_59 (by decide) rfl (fun q11 => ?_) (fun q11 => ?_))
          · have q11' : Int32.toInt be < Int32.toInt 0 := (ab_ilt (x := be) (y := 0)).1 q11
            refine go_wp rfl (wq_iload dX10_tooMuch_79 rfl rfl ?_)
            refine go_wp rfl (wq_goto (t := 86) dX10_tooMuch_81 (by decide) ?_)
            refine go_wp rfl (wq_istore (lv' := [some (.ref 76), some (.int s), some (.int t), some (.int ah), some (.int k), some (.int k)]) dX10_tooMuch_86 ⟨Nat.le_of_ble_eq_true rfl, rfl⟩ rfl rfl ?_)
            refine go_wp rfl (wq_iinc (v := (k + Int32.ofInt 1)) (lv' := [some (.ref 76), some (.int s), some (.int t), some (.int ah), some (.int k), some (.int (k + Int32.ofInt 1))]) dX10_tooMuch_88 rfl ⟨Nat.le_of_ble_eq_true rfl, rfl⟩ rfl rfl rfl ?_)
            refine go_wp rfl (wq_goto (t := 8) dX10_tooMuch_91 (by decide) ?_)
            have hi := ab_inc (x := k) (by omega) (by omega)
            exact go_cut rfl ⟨_, (show 20 - (k.toInt.toNat + 1) < n by omega), rfl, rfl, _, _, _, rfl, b1, (Or.inr ⟨(by omega), (by omega), (by omega)⟩), (by omega), (by omega), (by omega)⟩
          · have q11' : Int32.toInt be ≥ Int32.toInt 0 := (ab_ilt (x := be) (y := 0)).2 q11
            refine go_wp rfl (wq_aload_n dX10_tooMuch_62 rfl rfl ?_)
            refine go_wp rfl (wq_getfield dX10_tooMuch_63 fe_X10_125 h76 hs_calAt rfl ?_)
            refine go_wp rfl (wq_iload dX10_tooMuch_66 rfl rfl ?_)
            refine go_wp rfl (wq_iaload (v := (f k.toNatClampNeg)) dX10_tooMuch_68 (by decide) hf (vp_mk (by omega) (by omega)) rfl rfl ?_)
            refine go_wp rfl (wq_aload_n dX10_tooMuch_69 rfl rfl ?_)
            refine go_wp rfl (wq_getfield dX10_tooMuch_70 fe_X10_125 h76 hs_calAt rfl ?_)
            refine go_wp rfl (wq_iload dX10_tooMuch_73 rfl rfl ?_)
            refine go_wp rfl (wq_iaload (v := (f be.toNatClampNeg)) dX10_tooMuch_75 (by decide) hf (vp_mk (by omega) (by omega)) rfl rfl ?_)
            refine go_wp rfl (wq_icmp_ne (t := 84) dX10_tooMuch_76 (by decide) rfl (fun q12 => ?_) (fun q12 => ?_))
            · have q12' : Int32.toInt (f k.toNatClampNeg) ≠ Int32.toInt (f be.toNatClampNeg) := (ab_ieq (x := (f k.toNatClampNeg)) (y := (f be.toNatClampNeg))).2 q12
              refine go_wp rfl (wq_iload dX10_tooMuch_84 rfl rfl ?_)
              refine go_wp rfl (wq_istore (lv' := [some (.ref 76), some (.int s), some (.int t), some (.int ah), some (.int be), some (.int k)]) dX10_tooMuch_86 ⟨Nat.le_of_ble_eq_true rfl, rfl⟩ rfl rfl ?_)
              refine go_wp rfl (wq_iinc (v := (k + Int32.ofInt 1)) (lv' := [some (.ref 76), some (.int s), some (.int t), some (.int ah), some (.int be), some (.int (k + Int32.ofInt 1))]) dX10_tooMuch_88 rfl ⟨Nat.le_of_ble_eq_true rfl, rfl⟩ rfl rfl rfl ?_)
              refine go_wp rfl (wq_goto (t := 8) dX10_tooMuch_91 (by decide) ?_)
              have hi := ab_inc (x := k) (by omega) (by omega)
              exact go_cut rfl ⟨_, (show 20 - (k.toInt.toNat + 1) < n by omega), rfl, rfl, _, _, _, rfl, b1, b2, (by omega), (by omega), (by omega)⟩
            · have q12' : Int32.toInt (f k.toNatClampNeg) = Int32.toInt (f be.toNatClampNeg) := (ab_ieq (x := (f k.toNatClampNeg)) (y := (f be.toNatClampNeg))).1 q12
              refine go_wp rfl (wq_iload dX10_tooMuch_79 rfl rfl ?_)
              refine go_wp rfl (wq_goto (t := 86) dX10_tooMuch_81 (by decide) ?_)
              refine go_wp rfl (wq_istore (lv' := [some (.ref 76), some (.int s), some (.int t), some (.int ah), some (.int k), some (.int k)]) dX10_tooMuch_86 ⟨Nat.le_of_ble_eq_true rfl, rfl⟩ rfl rfl ?_)
              refine go_wp rfl (wq_iinc (v := (k + Int32.ofInt 1)) (lv' := [some (.ref 76), some (.int s), some (.int t), some (.int ah), some (.int k), some (.int (k + Int32.ofInt 1))]) dX10_tooMuch_88 rfl ⟨Nat.le_of_ble_eq_true rfl, rfl⟩ rfl rfl rfl ?_)
              refine go_wp rfl (wq_goto (t := 8) dX10_tooMuch_91 (by decide) ?_)
              have hi := ab_inc (x := k) (by omega) (by omega)
              exact go_cut rfl ⟨_, (show 20 - (k.toInt.toNat + 1) < n by omega), rfl, rfl, _, _, _, rfl, b1, (Or.inr ⟨(by omega), (by omega), (by omega)⟩), (by omega), (by omega), (by omega)⟩
      · have q9' : Int32.toInt (f k.toNatClampNeg) ≤ Int32.toInt t := (ab_igt (x := (f k.toNatClampNeg)) (y := t)).2 q9
        refine go_wp rfl (wq_iload dX10_tooMuch_39 rfl rfl ?_)
        refine go_wp rfl (wq_goto (t := 45) dX10_tooMuch_41 (by decide) ?_)
        refine go_wp rfl (wq_istore_n (lv' := [some (.ref 76), some (.int s), some (.int t), some (.int k), some (.int be), some (.int k)]) dX10_tooMuch_45 ⟨Nat.le_of_ble_eq_true rfl, rfl⟩ rfl rfl ?_)
        refine go_wp rfl (wq_aload_n dX10_tooMuch_46 rfl rfl ?_)
        refine go_wp rfl (wq_getfield dX10_tooMuch_47 fe_X10_125 h76 hs_calAt rfl ?_)
        refine go_wp rfl (wq_iload dX10_tooMuch_50 rfl rfl ?_)
        refine go_wp rfl (wq_iaload (v := (f k.toNatClampNeg)) dX10_tooMuch_52 (by decide) hf (vp_mk (by omega) (by omega)) rfl rfl ?_)
        refine go_wp rfl (wq_iload_n dX10_tooMuch_53 rfl rfl ?_)
        refine go_wp rfl (wq_icmp_le (t := 84) dX10_tooMuch_54 (by decide) rfl (fun q13 => ?_) (fun q13 => ?_))
        · have q13' : Int32.toInt (f k.toNatClampNeg) ≤ Int32.toInt t := (ab_ile (x := (f k.toNatClampNeg)) (y := t)).1 q13
          refine go_wp rfl (wq_iload dX10_tooMuch_84 rfl rfl ?_)
          refine go_wp rfl (wq_istore (lv' := [some (.ref 76), some (.int s), some (.int t), some (.int k), some (.int be), some (.int k)]) dX10_tooMuch_86 ⟨Nat.le_of_ble_eq_true rfl, rfl⟩ rfl rfl ?_)
          refine go_wp rfl (wq_iinc (v := (k + Int32.ofInt 1)) (lv' := [some (.ref 76), some (.int s), some (.int t), some (.int k), some (.int be), some (.int (k + Int32.ofInt 1))]) dX10_tooMuch_88 rfl ⟨Nat.le_of_ble_eq_true rfl, rfl⟩ rfl rfl rfl ?_)
          refine go_wp rfl (wq_goto (t := 8) dX10_tooMuch_91 (by decide) ?_)
          have hi := ab_inc (x := k) (by omega) (by omega)
          exact go_cut rfl ⟨_, (show 20 - (k.toInt.toNat + 1) < n by omega), rfl, rfl, _, _, _, rfl, (Or.inr ⟨(by omega), (by omega), (by omega)⟩), b2, (by omega), (by omega), (by omega)⟩
        · have q13' : Int32.toInt (f k.toNatClampNeg) > Int32.toInt t := (ab_ile (x := (f k.toNatClampNeg)) (y := t)).2 q13
          refine go_wp rfl (wq_iload dX10_tooMuch_57 rfl rfl ?_)
          refine go_wp rfl (wq_if_lt (t := 79) dX10_tooMuch_59 (by decide) rfl (fun q14 => ?_) (fun q14 => ?_))
          · have q14' : Int32.toInt be < Int32.toInt 0 := (ab_ilt (x := be) (y := 0)).1 q14
            refine go_wp rfl (wq_iload dX10_tooMuch_79 rfl rfl ?_)
            refine go_wp rfl (wq_goto (t := 86) dX10_tooMuch_81 (by decide) ?_)
            refine go_wp rfl (wq_istore (lv' := [some (.ref 76), some (.int s), some (.int t), some (.int k), some (.int k), some (.int k)]) dX10_tooMuch_86 ⟨Nat.le_of_ble_eq_true rfl, rfl⟩ rfl rfl ?_)
            refine go_wp rfl (wq_iinc (v := (k + Int32.ofInt 1)) (lv' := [some (.ref 76), some (.int s), some (.int t), some (.int k), some (.int k), some (.int (k + Int32.ofInt 1))]) dX10_tooMuch_88 rfl ⟨Nat.le_of_ble_eq_true rfl, rfl⟩ rfl rfl rfl ?_)
            refine go_wp rfl (wq_goto (t := 8) dX10_tooMuch_91 (by decide) ?_)
            have hi := ab_inc (x := k) (by omega) (by omega)
            exact go_cut rfl ⟨_, (show 20 - (k.toInt.toNat + 1) < n by omega), rfl, rfl, _, _, _, rfl, (Or.inr ⟨(by omega), (by omega), (by omega)⟩), (Or.inr ⟨(by omega), (by omega), (by omega)⟩), (by omega), (by omega), (by omega)⟩
          · have q14' : Int32.toInt be ≥ Int32.toInt 0 := (ab_ilt (x := be) (y := 0)).2 q14
            refine go_wp rfl (wq_aload_n dX10_tooMuch_62 rfl rfl ?_)
            refine go_wp rfl (wq_getfield dX10_tooMuch_63 fe_X10_125 h76 hs_calAt rfl ?_)
            refine go_wp rfl (wq_iload dX10_tooMuch_66 rfl rfl ?_)
            refine go_wp rfl (wq_iaload (v := (f k.toNatClampNeg)) dX10_tooMuch_68 (by decide) hf (vp_mk (by omega) (by omega)) rfl rfl ?_)
            refine go_wp rfl (wq_aload_n dX10_tooMuch_69 rfl rfl ?_)
            refine go_wp rfl (wq_getfield dX10_tooMuch_70 fe_X10_125 h76 hs_calAt rfl ?_)
            refine go_wp rfl (wq_iload dX10_tooMuch_73 rfl rfl ?_)
            refine go_wp rfl (wq_iaload (v := (f be.toNatClampNeg)) dX10_tooMuch_75 (by decide) hf (vp_mk (by omega) (by omega)) rfl rfl ?_)
            refine go_wp rfl (wq_icmp_ne (t := 84) dX10_tooMuch_76 (by decide) rfl (fun q15 => ?_) (fun q15 => ?_))
            · have q15' : Int32.toInt (f k.toNatClampNeg) ≠ Int32.toInt (f be.toNatClampNeg) := (ab_ieq (x := (f k.toNatClampNeg)) (y := (f be.toNatClampNeg))).2 q15
              refine go_wp rfl (wq_iload dX10_tooMuch_84 rfl rfl ?_)
              refine go_wp rfl (wq_istore (lv' := [some (.ref 76), some (.int s), some (.int t), some (.int k), some (.int be), some (.int k)]) dX10_tooMuch_86 ⟨Nat.le_of_ble_eq_true rfl, rfl⟩ rfl rfl ?_)
              refine go_wp rfl (wq_iinc (v := (k + Int32.ofInt 1)) (lv' := [some (.ref 76), some (.int s), some (.int t), some (.int k), some (.int be), some (.int (k + Int32.ofInt 1))]) dX10_tooMuch_88 rfl ⟨Nat.le_of_ble_eq_true rfl, rfl⟩ rfl rfl rfl ?_)
              refine go_wp rfl (wq_goto (t := 8) dX10_tooMuch_91 (by decide) ?_)
              have hi := ab_inc (x := k) (by omega) (by omega)
              exact go_cut rfl ⟨_, (show 20 - (k.toInt.toNat + 1) < n by omega), rfl, rfl, _, _, _, rfl, (Or.inr ⟨(by omega), (by omega), (by omega)⟩), b2, (by omega), (by omega), (by omega)⟩
            · have q15' : Int32.toInt (f k.toNatClampNeg) = Int32.toInt (f be.toNatClampNeg) := (ab_ieq (x := (f k.toNatClampNeg)) (y := (f be.toNatClampNeg))).1 q15
              refine go_wp rfl (wq_iload dX10_tooMuch_79 rfl rfl ?_)
              refine go_wp rfl (wq_goto (t := 86) dX10_tooMuch_81 (by decide) ?_)
              refine go_wp rfl (wq_istore (lv' := [some (.ref 76), some (.int s), some (.int t), some (.int k), some (.int k), some (.int k)]) dX10_tooMuch_86 ⟨Nat.le_of_ble_eq_true rfl, rfl⟩ rfl rfl ?_)
              refine go_wp rfl (wq_iinc (v := (k + Int32.ofInt 1)) (lv' := [some (.ref 76), some (.int s), some (.int t), some (.int k), some (.int k), some (.int (k + Int32.ofInt 1))]) dX10_tooMuch_88 rfl ⟨Nat.le_of_ble_eq_true rfl, rfl⟩ rfl rfl rfl ?_)
              refine go_wp rfl (wq_goto (t := 8) dX10_tooMuch_91 (by decide) ?_)
              have hi := ab_inc (x := k) (by omega) (by omega)
              exact go_cut rfl ⟨_, (show 20 - (k.toInt.toNat + 1) < n by omega), rfl, rfl, _, _, _, rfl, (Or.inr ⟨(by omega), (by omega), (by omega)⟩), (Or.inr ⟨(by omega), (by omega), (by omega)⟩), (by omega), (by omega), (by omega)⟩
set_option maxRecDepth 100000 in
set_option maxHeartbeats 4000000 in
theorem tm_w0 {s t cal : Int32} {f g e : Nat → Int32} {cs : ex_C} {fs : List Value} {Q : ex_Q} (h76 : cs[76]? = some (.inr (10, fs))) (hs_calibrations : fs[45]? = some (.int cal)) (hs_calAt : fs[47]? = some (.ref 111)) (hs_calSensor : fs[46]? = some (.ref 110)) (hs_over : fs[48]? = some (.ref 112)) (hf : cs[111]? = some (.inl (0, 20, .inl f))) (hg : cs[110]? = some (.inl (0, 20, .inl g))) (he : cs[112]? = some (.inl (0, 20, .inl e))) (hh1 : 0 ≤ cal.toInt) (hh2 : cal.toInt ≤ 20) (hQ : ∀ r, Q (some (.int r)) cs) : ex_wp ec_xt bx_X10_tooMuch cX10_tooMuch (some .int) (tm_An s t f cs) Q 90 0 [some (.ref 76), some (.int s), some (.int t), none, none, none] [] cs := by
  refine wq_iconst (v := (-1)) dX10_tooMuch_0 (by decide) rfl ?_
  refine go_wp rfl (wq_istore_n (lv' := [some (.ref 76), some (.int s), some (.int t), some (.int (-1)), none, none]) dX10_tooMuch_1 ⟨Nat.le_of_ble_eq_true rfl, rfl⟩ rfl rfl ?_)
  refine go_wp rfl (wq_iconst (v := (-1)) dX10_tooMuch_2 (by decide) rfl ?_)
  refine go_wp rfl (wq_istore (lv' := [some (.ref 76), some (.int s), some (.int t), some (.int (-1)), some (.int (-1)), none]) dX10_tooMuch_3 ⟨Nat.le_of_ble_eq_true rfl, rfl⟩ rfl rfl ?_)
  refine go_wp rfl (wq_iconst (v := 0) dX10_tooMuch_5 (by decide) rfl ?_)
  refine go_wp rfl (wq_istore (lv' := [some (.ref 76), some (.int s), some (.int t), some (.int (-1)), some (.int (-1)), some (.int 0)]) dX10_tooMuch_6 ⟨Nat.le_of_ble_eq_true rfl, rfl⟩ rfl rfl ?_)
  exact go_cut rfl ⟨20, rfl, rfl, _, _, _, rfl, Or.inl ab_zm, Or.inl ab_zm, (by rw [ab_z0]; omega), (by rw [ab_z0]; omega), (by rw [ab_z0]; omega)⟩
theorem tm_av3 {av : ex_V} {a b c : Value} (hl : av.length = 3) (e0 : av[0]? = some a) (e1 : av[1]? = some b) (e2 : av[2]? = some c) : av = [a, b, c] := by
  match av, hl, e0, e1, e2 with
  | [_, _, _], _, e0, e1, e2 =>
    simp at e0 e1 e2
    subst e0 e1 e2
    rfl
set_option maxRecDepth 100000 in
theorem bm_X10_tooMuch (l : Launch) : ex_Met l yX10_tooMuch cX10_tooMuch 6 (some .int) 0 0 (ab_sp ab_hd bc_X10_tooMuch) := by
  intro D ad ca n sz av cs Q h
  refine ex_lmet (by decide) rfl (bj_X10_tooMuch l) D ad ca n sz av cs Q ?_
  obtain ⟨c, hc, ⟨hp1, hp2, -⟩, hk, hQ⟩ := h
  have hc' : c = ([.inl 76, .inr (-2147483648, 2147483647), .inr (-2147483648, 2147483647)], [], [], [(some (-2147483648, 2147483647, none), [], [])]) := by
    unfold bc_X10_tooMuch bq_X10_tooMuch at hc
    simpa using hc
  subst hc'
  obtain ⟨v0, e0, h0⟩ := hp2 0 _ rfl
  obtain ⟨v1, e1, x1, rfl, -, -⟩ := hp2 1 _ rfl
  obtain ⟨v2, e2, x2, rfl, -, -⟩ := hp2 2 _ rfl
  cases h0
  have hav : av = [.ref 76, .int x1, .int x2] := tm_av3 hp1 e0 e1 e2
  subst hav
  obtain ⟨fs, h76, -, hj⟩ := hk.obj (a := 76) (ci := 10) rfl
  obtain ⟨hv, hs_calibrations, cal, rfl, hh1, hh2⟩ := hj 45 (.inr (0, 20)) rfl
  have hs_calAt : fs[47]? = some (.ref 111) := by
    obtain ⟨v, hv, hc⟩ := hj 47 (.inl 111) rfl
    cases hc
    exact hv
  have hs_calSensor : fs[46]? = some (.ref 110) := by
    obtain ⟨v, hv, hc⟩ := hj 46 (.inl 110) rfl
    cases hc
    exact hv
  have hs_over : fs[48]? = some (.ref 112) := by
    obtain ⟨v, hv, hc⟩ := hj 48 (.inl 112) rfl
    cases hc
    exact hv
  obtain ⟨f, hf, -⟩ := hk.arr (a := 111) (t := 0) (n := 20) (m := 20) (lo := -2147483648) (hi := 2147483647) rfl (by decide)
  obtain ⟨g, hg, -⟩ := hk.arr (a := 110) (t := 0) (n := 20) (m := 20) (lo := -2147483648) (hi := 2147483647) rfl (by decide)
  obtain ⟨e, he, -⟩ := hk.arr (a := 112) (t := 0) (n := 20) (m := 20) (lo := -2147483648) (hi := 2147483647) rfl (by decide)
  have hQ' : ∀ r, Q (some (.int r)) cs := fun r => hQ _ _ ⟨hk, ab_rf0, _, List.mem_cons_self, ⟨r, rfl, ⟨ab_ge r, ab_lt' r⟩, fun _ h => (by cases h)⟩, fun q hq => (by cases hq), fun q hq => (by cases hq)⟩
  refine sl_in 90 (tm_I x1 x2 f cs) rfl (Nat.le_of_ble_eq_true rfl) rfl (tm_w0 h76 hs_calibrations hs_calAt hs_calSensor hs_over hf hg he hh1 hh2 hQ') (fun pc J n lv st cs' hI hJ => ?_)
  unfold tm_I at hI
  split at hI
  · rename_i e'
    subst e'
    cases hI
    obtain ⟨rfl, rfl, ah, be, k, rfl, b1, b2, b3, b4, hn⟩ := hJ
    exact tm_w8 h76 hs_calibrations hs_calAt hs_calSensor hs_over hf hg he hh1 hh2 hQ' b1 b2 b3 b4 hn
  · cases hI
theorem ba_X10_worked : ec_al [(1558, Cond.code yX10_worked cX10_worked 2 (some .int)), (68, Cond.initialized yX10_worked.cls), (1556, Cond.instanceMethod yX10_worked), (1557, Cond.selects yX10_worked.cls yX10_worked yX10_worked), (1282, Cond.methodLink RX10 160 yX10_finding), (1559, Cond.methodLink RX10 295 yX10_tooMuch)] := ec_alk (by decide +kernel)
theorem bw_X10_worked : ec_cw yX10_worked cX10_worked 2 (some .int) := ⟨ba_X10_worked.1, ba_X10_worked.2.1, nc_RX10⟩
theorem bv_X10_worked : Cond.instanceMethod yX10_worked ∈ ec_tb ∧ Cond.selects yX10_worked.cls yX10_worked yX10_worked ∈ ec_tb := ⟨ba_X10_worked.2.2.1, ba_X10_worked.2.2.2.1⟩
theorem bp_X10_worked : (parseMethodDescriptor yX10_worked.desc).map (fun d => d.parameters.length) = some 1 := by decide +kernel
theorem bk_X10_worked (l : Launch) : ∀ (ix n : Nat) (rc : Option Nat) (sp : ex_S), (be_X10_worked ix).map (fun q => (q.1, q.2.1, ab_sp ab_hd q.2.2)) = some (n, rc, sp) → ex_cok l RX10 1 25 ix n rc sp := by
  intro ix n rc sp h
  obtain ⟨l0, h2, rfl⟩ := ab_dmk h
  clear h
  unfold be_X10_worked at h2
  split at h2
  · cases h2; exact ec_cV (bm_X10_finding l) bw_X10_finding bv_X10_finding (by decide) (by decide) (Or.inl ba_X10_worked.2.2.2.2.1) (T := TX10) (N := 57) rfl (by decide) bp_X10_finding
  · cases h2; exact ec_cV (bm_X10_tooMuch l) bw_X10_tooMuch bv_X10_tooMuch (by decide) (by decide) (Or.inl ba_X10_worked.2.2.2.2.2.1) (T := TX10) (N := 57) rfl (by decide) bp_X10_tooMuch
  · cases h2
theorem bj_X10_worked (l : Launch) : ex_ok l 1 25 bx_X10_worked := ec_okp fo_X10 co_X10 so_X10 (bk_X10_worked l)
theorem bm_X10_worked (l : Launch) : ex_Met l yX10_worked cX10_worked 2 (some .int) 1 25 (ab_sp ab_hd bc_X10_worked) := ab_met (by decide) pn_RX10 rfl (bj_X10_worked l) bd_X10_worked ab_hcm ab_xk bz_X10_worked
theorem ba_X10_delay : ec_al [(1566, Cond.code yX10_delay cX10_delay 3 (some .int)), (68, Cond.initialized yX10_delay.cls), (1564, Cond.instanceMethod yX10_delay), (1565, Cond.selects yX10_delay.cls yX10_delay yX10_delay), (1303, Cond.methodLink RX10 171 yX10_isIn), (1282, Cond.methodLink RX10 160 yX10_finding)] := ec_alk (by decide +kernel)
theorem bw_X10_delay : ec_cw yX10_delay cX10_delay 3 (some .int) := ⟨ba_X10_delay.1, ba_X10_delay.2.1, nc_RX10⟩
theorem bv_X10_delay : Cond.instanceMethod yX10_delay ∈ ec_tb ∧ Cond.selects yX10_delay.cls yX10_delay yX10_delay ∈ ec_tb := ⟨ba_X10_delay.2.2.1, ba_X10_delay.2.2.2.1⟩
theorem bp_X10_delay : (parseMethodDescriptor yX10_delay.desc).map (fun d => d.parameters.length) = some 1 := by decide +kernel
theorem bk_X10_delay (l : Launch) : ∀ (ix n : Nat) (rc : Option Nat) (sp : ex_S), (be_X10_delay ix).map (fun q => (q.1, q.2.1, ab_sp ab_hd q.2.2)) = some (n, rc, sp) → ex_cok l RX10 1 22 ix n rc sp := by
  intro ix n rc sp h
  obtain ⟨l0, h2, rfl⟩ := ab_dmk h
  clear h
  unfold be_X10_delay at h2
  split at h2
  · cases h2; exact ec_cS (bm_X10_isIn l) bw_X10_isIn bv_X10_isIn (by decide) (by decide) (Or.inl ba_X10_delay.2.2.2.2.1) bp_X10_isIn
  · cases h2; exact ec_cV (bm_X10_finding l) bw_X10_finding bv_X10_finding (by decide) (by decide) (Or.inl ba_X10_delay.2.2.2.2.2.1) (T := TX10) (N := 57) rfl (by decide) bp_X10_finding
  · cases h2
theorem bj_X10_delay (l : Launch) : ex_ok l 1 22 bx_X10_delay := ec_okp fo_X10 co_X10 so_X10 (bk_X10_delay l)
theorem bm_X10_delay (l : Launch) : ex_Met l yX10_delay cX10_delay 3 (some .int) 1 22 (ab_sp ab_hd bc_X10_delay) := ab_met (by decide) pn_RX10 rfl (bj_X10_delay l) bd_X10_delay ab_hcm ab_xk bz_X10_delay
theorem ba_X10_known : ec_al [(1570, Cond.code yX10_known cX10_known 5 (some .int)), (68, Cond.initialized yX10_known.cls), (1568, Cond.instanceMethod yX10_known), (1569, Cond.selects yX10_known.cls yX10_known yX10_known), (1303, Cond.methodLink RX10 171 yX10_isIn), (1282, Cond.methodLink RX10 160 yX10_finding)] := ec_alk (by decide +kernel)
theorem bw_X10_known : ec_cw yX10_known cX10_known 5 (some .int) := ⟨ba_X10_known.1, ba_X10_known.2.1, nc_RX10⟩
theorem bv_X10_known : Cond.instanceMethod yX10_known ∈ ec_tb ∧ Cond.selects yX10_known.cls yX10_known yX10_known ∈ ec_tb := ⟨ba_X10_known.2.2.1, ba_X10_known.2.2.2.1⟩
theorem bp_X10_known : (parseMethodDescriptor yX10_known.desc).map (fun d => d.parameters.length) = some 2 := by decide +kernel
theorem bk_X10_known (l : Launch) : ∀ (ix n : Nat) (rc : Option Nat) (sp : ex_S), (be_X10_known ix).map (fun q => (q.1, q.2.1, ab_sp ab_hd q.2.2)) = some (n, rc, sp) → ex_cok l RX10 1 22 ix n rc sp := by
  intro ix n rc sp h
  obtain ⟨l0, h2, rfl⟩ := ab_dmk h
  clear h
  unfold be_X10_known at h2
  split at h2
  · cases h2; exact ec_cS (bm_X10_isIn l) bw_X10_isIn bv_X10_isIn (by decide) (by decide) (Or.inl ba_X10_known.2.2.2.2.1) bp_X10_isIn
  · cases h2; exact ec_cV (bm_X10_finding l) bw_X10_finding bv_X10_finding (by decide) (by decide) (Or.inl ba_X10_known.2.2.2.2.2.1) (T := TX10) (N := 57) rfl (by decide) bp_X10_finding
  · cases h2
theorem bj_X10_known (l : Launch) : ex_ok l 1 22 bx_X10_known := ec_okp fo_X10 co_X10 so_X10 (bk_X10_known l)
theorem bm_X10_known (l : Launch) : ex_Met l yX10_known cX10_known 5 (some .int) 1 22 (ab_sp ab_hd bc_X10_known) := ab_met (by decide) pn_RX10 rfl (bj_X10_known l) bd_X10_known ab_hcm ab_xk bz_X10_known
theorem ba_X10_mass : ec_al [(1574, Cond.code yX10_mass cX10_mass 4 (some .int)), (68, Cond.initialized yX10_mass.cls), (1572, Cond.instanceMethod yX10_mass), (1573, Cond.selects yX10_mass.cls yX10_mass yX10_mass), (1303, Cond.methodLink RX10 171 yX10_isIn), (1282, Cond.methodLink RX10 160 yX10_finding)] := ec_alk (by decide +kernel)
theorem bw_X10_mass : ec_cw yX10_mass cX10_mass 4 (some .int) := ⟨ba_X10_mass.1, ba_X10_mass.2.1, nc_RX10⟩
theorem bv_X10_mass : Cond.instanceMethod yX10_mass ∈ ec_tb ∧ Cond.selects yX10_mass.cls yX10_mass yX10_mass ∈ ec_tb := ⟨ba_X10_mass.2.2.1, ba_X10_mass.2.2.2.1⟩
theorem bp_X10_mass : (parseMethodDescriptor yX10_mass.desc).map (fun d => d.parameters.length) = some 2 := by decide +kernel
theorem bk_X10_mass (l : Launch) : ∀ (ix n : Nat) (rc : Option Nat) (sp : ex_S), (be_X10_mass ix).map (fun q => (q.1, q.2.1, ab_sp ab_hd q.2.2)) = some (n, rc, sp) → ex_cok l RX10 1 22 ix n rc sp := by
  intro ix n rc sp h
  obtain ⟨l0, h2, rfl⟩ := ab_dmk h
  clear h
  unfold be_X10_mass at h2
  split at h2
  · cases h2; exact ec_cS (bm_X10_isIn l) bw_X10_isIn bv_X10_isIn (by decide) (by decide) (Or.inl ba_X10_mass.2.2.2.2.1) bp_X10_isIn
  · cases h2; exact ec_cV (bm_X10_finding l) bw_X10_finding bv_X10_finding (by decide) (by decide) (Or.inl ba_X10_mass.2.2.2.2.2.1) (T := TX10) (N := 57) rfl (by decide) bp_X10_finding
  · cases h2
theorem bj_X10_mass (l : Launch) : ex_ok l 1 22 bx_X10_mass := ec_okp fo_X10 co_X10 so_X10 (bk_X10_mass l)
theorem bm_X10_mass (l : Launch) : ex_Met l yX10_mass cX10_mass 4 (some .int) 1 22 (ab_sp ab_hd bc_X10_mass) := ab_met (by decide) pn_RX10 rfl (bj_X10_mass l) bd_X10_mass ab_hcm ab_xk bz_X10_mass
theorem ba_X10_dock : ec_al [(1579, Cond.code yX10_dock cX10_dock 3 (some .int)), (68, Cond.initialized yX10_dock.cls), (1577, Cond.instanceMethod yX10_dock), (1578, Cond.selects yX10_dock.cls yX10_dock yX10_dock), (1303, Cond.methodLink RX10 171 yX10_isIn), (1282, Cond.methodLink RX10 160 yX10_finding)] := ec_alk (by decide +kernel)
theorem bw_X10_dock : ec_cw yX10_dock cX10_dock 3 (some .int) := ⟨ba_X10_dock.1, ba_X10_dock.2.1, nc_RX10⟩
theorem bv_X10_dock : Cond.instanceMethod yX10_dock ∈ ec_tb ∧ Cond.selects yX10_dock.cls yX10_dock yX10_dock ∈ ec_tb := ⟨ba_X10_dock.2.2.1, ba_X10_dock.2.2.2.1⟩
theorem bp_X10_dock : (parseMethodDescriptor yX10_dock.desc).map (fun d => d.parameters.length) = some 2 := by decide +kernel
theorem bk_X10_dock (l : Launch) : ∀ (ix n : Nat) (rc : Option Nat) (sp : ex_S), (be_X10_dock ix).map (fun q => (q.1, q.2.1, ab_sp ab_hd q.2.2)) = some (n, rc, sp) → ex_cok l RX10 1 22 ix n rc sp := by
  intro ix n rc sp h
  obtain ⟨l0, h2, rfl⟩ := ab_dmk h
  clear h
  unfold be_X10_dock at h2
  split at h2
  · cases h2; exact ec_cS (bm_X10_isIn l) bw_X10_isIn bv_X10_isIn (by decide) (by decide) (Or.inl ba_X10_dock.2.2.2.2.1) bp_X10_isIn
  · cases h2; exact ec_cV (bm_X10_finding l) bw_X10_finding bv_X10_finding (by decide) (by decide) (Or.inl ba_X10_dock.2.2.2.2.2.1) (T := TX10) (N := 57) rfl (by decide) bp_X10_finding
  · cases h2
theorem bj_X10_dock (l : Launch) : ex_ok l 1 22 bx_X10_dock := ec_okp fo_X10 co_X10 so_X10 (bk_X10_dock l)
theorem bm_X10_dock (l : Launch) : ex_Met l yX10_dock cX10_dock 3 (some .int) 1 22 (ab_sp ab_hd bc_X10_dock) := ab_met (by decide) pn_RX10 rfl (bj_X10_dock l) bd_X10_dock ab_hcm ab_xk bz_X10_dock
theorem ba_X10_undock : ec_al [(1583, Cond.code yX10_undock cX10_undock 2 (some .int)), (68, Cond.initialized yX10_undock.cls), (1581, Cond.instanceMethod yX10_undock), (1582, Cond.selects yX10_undock.cls yX10_undock yX10_undock), (1303, Cond.methodLink RX10 171 yX10_isIn), (1282, Cond.methodLink RX10 160 yX10_finding)] := ec_alk (by decide +kernel)
theorem bw_X10_undock : ec_cw yX10_undock cX10_undock 2 (some .int) := ⟨ba_X10_undock.1, ba_X10_undock.2.1, nc_RX10⟩
theorem bv_X10_undock : Cond.instanceMethod yX10_undock ∈ ec_tb ∧ Cond.selects yX10_undock.cls yX10_undock yX10_undock ∈ ec_tb := ⟨ba_X10_undock.2.2.1, ba_X10_undock.2.2.2.1⟩
theorem bp_X10_undock : (parseMethodDescriptor yX10_undock.desc).map (fun d => d.parameters.length) = some 1 := by decide +kernel
theorem bk_X10_undock (l : Launch) : ∀ (ix n : Nat) (rc : Option Nat) (sp : ex_S), (be_X10_undock ix).map (fun q => (q.1, q.2.1, ab_sp ab_hd q.2.2)) = some (n, rc, sp) → ex_cok l RX10 1 22 ix n rc sp := by
  intro ix n rc sp h
  obtain ⟨l0, h2, rfl⟩ := ab_dmk h
  clear h
  unfold be_X10_undock at h2
  split at h2
  · cases h2; exact ec_cS (bm_X10_isIn l) bw_X10_isIn bv_X10_isIn (by decide) (by decide) (Or.inl ba_X10_undock.2.2.2.2.1) bp_X10_isIn
  · cases h2; exact ec_cV (bm_X10_finding l) bw_X10_finding bv_X10_finding (by decide) (by decide) (Or.inl ba_X10_undock.2.2.2.2.2.1) (T := TX10) (N := 57) rfl (by decide) bp_X10_finding
  · cases h2
theorem bj_X10_undock (l : Launch) : ex_ok l 1 22 bx_X10_undock := ec_okp fo_X10 co_X10 so_X10 (bk_X10_undock l)
theorem bm_X10_undock (l : Launch) : ex_Met l yX10_undock cX10_undock 2 (some .int) 1 22 (ab_sp ab_hd bc_X10_undock) := ab_met (by decide) pn_RX10 rfl (bj_X10_undock l) bd_X10_undock ab_hcm ab_xk bz_X10_undock
theorem ba_X10_tell : ec_al [(1587, Cond.code yX10_tell cX10_tell 2 (some .int)), (68, Cond.initialized yX10_tell.cls), (1585, Cond.instanceMethod yX10_tell), (1586, Cond.selects yX10_tell.cls yX10_tell yX10_tell), (1282, Cond.methodLink RX10 160 yX10_finding)] := ec_alk (by decide +kernel)
theorem bw_X10_tell : ec_cw yX10_tell cX10_tell 2 (some .int) := ⟨ba_X10_tell.1, ba_X10_tell.2.1, nc_RX10⟩
theorem bv_X10_tell : Cond.instanceMethod yX10_tell ∈ ec_tb ∧ Cond.selects yX10_tell.cls yX10_tell yX10_tell ∈ ec_tb := ⟨ba_X10_tell.2.2.1, ba_X10_tell.2.2.2.1⟩
theorem bp_X10_tell : (parseMethodDescriptor yX10_tell.desc).map (fun d => d.parameters.length) = some 1 := by decide +kernel
theorem bk_X10_tell (l : Launch) : ∀ (ix n : Nat) (rc : Option Nat) (sp : ex_S), (be_X10_tell ix).map (fun q => (q.1, q.2.1, ab_sp ab_hd q.2.2)) = some (n, rc, sp) → ex_cok l RX10 1 21 ix n rc sp := by
  intro ix n rc sp h
  obtain ⟨l0, h2, rfl⟩ := ab_dmk h
  clear h
  unfold be_X10_tell at h2
  split at h2
  · cases h2; exact ec_cV (bm_X10_finding l) bw_X10_finding bv_X10_finding (by decide) (by decide) (Or.inl ba_X10_tell.2.2.2.2.1) (T := TX10) (N := 57) rfl (by decide) bp_X10_finding
  · cases h2
theorem bj_X10_tell (l : Launch) : ex_ok l 1 21 bx_X10_tell := ec_okp fo_X10 co_X10 so_X10 (bk_X10_tell l)
theorem bm_X10_tell (l : Launch) : ex_Met l yX10_tell cX10_tell 2 (some .int) 1 21 (ab_sp ab_hd bc_X10_tell) := ab_met (by decide) pn_RX10 rfl (bj_X10_tell l) bd_X10_tell ab_hcm ab_xk bz_X10_tell
theorem ba_X10_check : ec_al [(1591, Cond.code yX10_check cX10_check 7 (some .int)), (68, Cond.initialized yX10_check.cls), (1589, Cond.instanceMethod yX10_check), (1590, Cond.selects yX10_check.cls yX10_check yX10_check), (1291, Cond.methodLink RX10 164 yX10_isModule), (1303, Cond.methodLink RX10 171 yX10_isIn), (1282, Cond.methodLink RX10 160 yX10_finding), (1512, Cond.methodLink RX10 273 yX10_layAside), (1451, Cond.methodLink RX10 262 yX10_tick)] := ec_alk (by decide +kernel)
theorem bw_X10_check : ec_cw yX10_check cX10_check 7 (some .int) := ⟨ba_X10_check.1, ba_X10_check.2.1, nc_RX10⟩
theorem bv_X10_check : Cond.instanceMethod yX10_check ∈ ec_tb ∧ Cond.selects yX10_check.cls yX10_check yX10_check ∈ ec_tb := ⟨ba_X10_check.2.2.1, ba_X10_check.2.2.2.1⟩
theorem bp_X10_check : (parseMethodDescriptor yX10_check.desc).map (fun d => d.parameters.length) = some 2 := by decide +kernel
theorem bk_X10_check (l : Launch) : ∀ (ix n : Nat) (rc : Option Nat) (sp : ex_S), (be_X10_check ix).map (fun q => (q.1, q.2.1, ab_sp ab_hd q.2.2)) = some (n, rc, sp) → ex_cok l RX10 5 112 ix n rc sp := by
  intro ix n rc sp h
  obtain ⟨l0, h2, rfl⟩ := ab_dmk h
  clear h
  unfold be_X10_check at h2
  split at h2
  · cases h2; exact ec_cV (bm_X10_isModule l) bw_X10_isModule bv_X10_isModule (by decide) (by decide) (Or.inl ba_X10_check.2.2.2.2.1) (T := TX10) (N := 57) rfl (by decide) bp_X10_isModule
  · cases h2; exact ec_cS (bm_X10_isIn l) bw_X10_isIn bv_X10_isIn (by decide) (by decide) (Or.inl ba_X10_check.2.2.2.2.2.1) bp_X10_isIn
  · cases h2; exact ec_cV (bm_X10_finding l) bw_X10_finding bv_X10_finding (by decide) (by decide) (Or.inl ba_X10_check.2.2.2.2.2.2.1) (T := TX10) (N := 57) rfl (by decide) bp_X10_finding
  · cases h2; exact ec_cV (bm_X10_layAside l) bw_X10_layAside bv_X10_layAside (by decide) (by decide) (Or.inl ba_X10_check.2.2.2.2.2.2.2.1) (T := TX10) (N := 57) rfl (by decide) bp_X10_layAside
  · cases h2; exact ec_cV (bm_X10_tick l) bw_X10_tick bv_X10_tick (by decide) (by decide) (Or.inl ba_X10_check.2.2.2.2.2.2.2.2.1) (T := TX10) (N := 57) rfl (by decide) bp_X10_tick
  · cases h2
theorem bj_X10_check (l : Launch) : ex_ok l 5 112 bx_X10_check := ec_okp fo_X10 co_X10 so_X10 (bk_X10_check l)
theorem bm_X10_check (l : Launch) : ex_Met l yX10_check cX10_check 7 (some .int) 5 112 (ab_sp ab_hd bc_X10_check) := ab_met (by decide) pn_RX10 rfl (bj_X10_check l) bd_X10_check ab_hcm ab_xk bz_X10_check
theorem ba_X10_count : ec_al [(1595, Cond.code yX10_count cX10_count 4 (some .int)), (68, Cond.initialized yX10_count.cls), (1593, Cond.instanceMethod yX10_count), (1594, Cond.selects yX10_count.cls yX10_count yX10_count), (1282, Cond.methodLink RX10 160 yX10_finding)] := ec_alk (by decide +kernel)
theorem bw_X10_count : ec_cw yX10_count cX10_count 4 (some .int) := ⟨ba_X10_count.1, ba_X10_count.2.1, nc_RX10⟩
theorem bv_X10_count : Cond.instanceMethod yX10_count ∈ ec_tb ∧ Cond.selects yX10_count.cls yX10_count yX10_count ∈ ec_tb := ⟨ba_X10_count.2.2.1, ba_X10_count.2.2.2.1⟩
theorem bp_X10_count : (parseMethodDescriptor yX10_count.desc).map (fun d => d.parameters.length) = some 1 := by decide +kernel
theorem bk_X10_count (l : Launch) : ∀ (ix n : Nat) (rc : Option Nat) (sp : ex_S), (be_X10_count ix).map (fun q => (q.1, q.2.1, ab_sp ab_hd q.2.2)) = some (n, rc, sp) → ex_cok l RX10 1 21 ix n rc sp := by
  intro ix n rc sp h
  obtain ⟨l0, h2, rfl⟩ := ab_dmk h
  clear h
  unfold be_X10_count at h2
  split at h2
  · cases h2; exact ec_cV (bm_X10_finding l) bw_X10_finding bv_X10_finding (by decide) (by decide) (Or.inl ba_X10_count.2.2.2.2.1) (T := TX10) (N := 57) rfl (by decide) bp_X10_finding
  · cases h2
theorem bj_X10_count (l : Launch) : ex_ok l 1 21 bx_X10_count := ec_okp fo_X10 co_X10 so_X10 (bk_X10_count l)
theorem bm_X10_count (l : Launch) : ex_Met l yX10_count cX10_count 4 (some .int) 1 21 (ab_sp ab_hd bc_X10_count) := ab_met (by decide) pn_RX10 rfl (bj_X10_count l) bd_X10_count ab_hcm ab_xk bz_X10_count
theorem ba_X10_found : ec_al [(1599, Cond.code yX10_found cX10_found 2 (some .int)), (68, Cond.initialized yX10_found.cls), (1597, Cond.instanceMethod yX10_found), (1598, Cond.selects yX10_found.cls yX10_found yX10_found), (1303, Cond.methodLink RX10 171 yX10_isIn), (1282, Cond.methodLink RX10 160 yX10_finding)] := ec_alk (by decide +kernel)
theorem bw_X10_found : ec_cw yX10_found cX10_found 2 (some .int) := ⟨ba_X10_found.1, ba_X10_found.2.1, nc_RX10⟩
theorem bv_X10_found : Cond.instanceMethod yX10_found ∈ ec_tb ∧ Cond.selects yX10_found.cls yX10_found yX10_found ∈ ec_tb := ⟨ba_X10_found.2.2.1, ba_X10_found.2.2.2.1⟩
theorem bp_X10_found : (parseMethodDescriptor yX10_found.desc).map (fun d => d.parameters.length) = some 1 := by decide +kernel
theorem bk_X10_found (l : Launch) : ∀ (ix n : Nat) (rc : Option Nat) (sp : ex_S), (be_X10_found ix).map (fun q => (q.1, q.2.1, ab_sp ab_hd q.2.2)) = some (n, rc, sp) → ex_cok l RX10 1 22 ix n rc sp := by
  intro ix n rc sp h
  obtain ⟨l0, h2, rfl⟩ := ab_dmk h
  clear h
  unfold be_X10_found at h2
  split at h2
  · cases h2; exact ec_cS (bm_X10_isIn l) bw_X10_isIn bv_X10_isIn (by decide) (by decide) (Or.inl ba_X10_found.2.2.2.2.1) bp_X10_isIn
  · cases h2; exact ec_cV (bm_X10_finding l) bw_X10_finding bv_X10_finding (by decide) (by decide) (Or.inl ba_X10_found.2.2.2.2.2.1) (T := TX10) (N := 57) rfl (by decide) bp_X10_finding
  · cases h2
theorem bj_X10_found (l : Launch) : ex_ok l 1 22 bx_X10_found := ec_okp fo_X10 co_X10 so_X10 (bk_X10_found l)
theorem bm_X10_found (l : Launch) : ex_Met l yX10_found cX10_found 2 (some .int) 1 22 (ab_sp ab_hd bc_X10_found) := ab_met (by decide) pn_RX10 rfl (bj_X10_found l) bd_X10_found ab_hcm ab_xk bz_X10_found

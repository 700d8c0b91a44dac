theorem ba_X9_hunt : ec_al [(952, Cond.code yX9_hunt cX9_hunt 1 (some .int)), (58, Cond.initialized yX9_hunt.cls), (950, Cond.instanceMethod yX9_hunt), (951, Cond.selects yX9_hunt.cls yX9_hunt yX9_hunt), (953, Cond.methodLink RX9 199 yX4_startOver)] := ec_alk (by decide +kernel)
theorem bw_X9_hunt : ec_cw yX9_hunt cX9_hunt 1 (some .int) := ⟨ba_X9_hunt.1, ba_X9_hunt.2.1, nc_RX9⟩
theorem bv_X9_hunt : Cond.instanceMethod yX9_hunt ∈ ec_tb ∧ Cond.selects yX9_hunt.cls yX9_hunt yX9_hunt ∈ ec_tb := ⟨ba_X9_hunt.2.2.1, ba_X9_hunt.2.2.2.1⟩
theorem bp_X9_hunt : (parseMethodDescriptor yX9_hunt.desc).map (fun d => d.parameters.length) = some 0 := by decide +kernel
theorem bk_X9_hunt (l : Launch) : ∀ (ix n : Nat) (rc : Option Nat) (sp : ex_S), (be_X9_hunt ix).map (fun q => (q.1, q.2.1, ab_sp ab_hd q.2.2)) = some (n, rc, sp) → ex_cok l RX9 1 21 ix n rc sp := by
  intro ix n rc sp h
  obtain ⟨l0, h2, rfl⟩ := ab_dmk h
  clear h
  unfold be_X9_hunt at h2
  split at h2
  · cases h2; exact ec_cV (bm_X4_startOver l) bw_X4_startOver bv_X4_startOver (by decide) (by decide) (Or.inl ba_X9_hunt.2.2.2.2.1) (T := TX4) (N := 2) rfl (by decide) bp_X4_startOver
  · cases h2
theorem bj_X9_hunt (l : Launch) : ex_ok l 1 21 bx_X9_hunt := ec_okp fo_X9 co_X9 so_X9 (bk_X9_hunt l)
theorem bm_X9_hunt (l : Launch) : ex_Met l yX9_hunt cX9_hunt 1 (some .int) 1 21 (ab_sp ab_hd bc_X9_hunt) := ab_met (by decide) pn_RX9 rfl (bj_X9_hunt l) bd_X9_hunt ab_hcm ab_xk bz_X9_hunt
theorem ba_X9_test : ec_al [(960, Cond.code yX9_test cX9_test 3 (some .int)), (58, Cond.initialized yX9_test.cls), (958, Cond.instanceMethod yX9_test), (959, Cond.selects yX9_test.cls yX9_test yX9_test), (961, Cond.methodLink RX9 203 yX4_narrow), (424, Cond.methodLink RX9 64 yX9_counted)] := ec_alk (by decide +kernel)
theorem bw_X9_test : ec_cw yX9_test cX9_test 3 (some .int) := ⟨ba_X9_test.1, ba_X9_test.2.1, nc_RX9⟩
theorem bv_X9_test : Cond.instanceMethod yX9_test ∈ ec_tb ∧ Cond.selects yX9_test.cls yX9_test yX9_test ∈ ec_tb := ⟨ba_X9_test.2.2.1, ba_X9_test.2.2.2.1⟩
theorem bp_X9_test : (parseMethodDescriptor yX9_test.desc).map (fun d => d.parameters.length) = some 2 := by decide +kernel
theorem bk_X9_test (l : Launch) : ∀ (ix n : Nat) (rc : Option Nat) (sp : ex_S), (be_X9_test ix).map (fun q => (q.1, q.2.1, ab_sp ab_hd q.2.2)) = some (n, rc, sp) → ex_cok l RX9 3 70 ix n rc sp := by
  intro ix n rc sp h
  obtain ⟨l0, h2, rfl⟩ := ab_dmk h
  clear h
  unfold be_X9_test at h2
  split at h2
  · cases h2; exact ec_cV (bm_X4_narrow l) bw_X4_narrow bv_X4_narrow (by decide) (by decide) (Or.inl ba_X9_test.2.2.2.2.1) (T := TX4) (N := 2) rfl (by decide) bp_X4_narrow
  · cases h2; exact ec_cV (bm_X9_counted l) bw_X9_counted bv_X9_counted (by decide) (by decide) (Or.inl ba_X9_test.2.2.2.2.2.1) (T := TX9) (N := 10) rfl (by decide) bp_X9_counted
  · cases h2
theorem bj_X9_test (l : Launch) : ex_ok l 3 70 bx_X9_test := ec_okp fo_X9 co_X9 so_X9 (bk_X9_test l)
theorem dX9_test_0 : decode cX9_test 0 = .ok (.aload_n 0, 1) := by decide +kernel
theorem dX9_test_1 : decode cX9_test 1 = .ok (.aload_n 0, 1) := by decide +kernel
theorem dX9_test_2 : decode cX9_test 2 = .ok (.getfield 31, 3) := by decide +kernel
theorem dX9_test_5 : decode cX9_test 5 = .ok (.aload_n 0, 1) := by decide +kernel
theorem dX9_test_6 : decode cX9_test 6 = .ok (.getfield 21, 3) := by decide +kernel
theorem dX9_test_9 : decode cX9_test 9 = .ok (.getfield 54, 3) := by decide +kernel
theorem dX9_test_12 : decode cX9_test 12 = .ok (.iload_n 1, 1) := by decide +kernel
theorem dX9_test_13 : decode cX9_test 13 = .ok (.iload_n 2, 1) := by decide +kernel
theorem dX9_test_14 : decode cX9_test 14 = .ok (.invokevirtual 203, 3) := by decide +kernel
theorem dX9_test_17 : decode cX9_test 17 = .ok (.invokevirtual 64, 3) := by decide +kernel
theorem dX9_test_20 : decode cX9_test 20 = .ok (.ireturn, 1) := by decide +kernel
set_option maxRecDepth 100000 in
set_option maxHeartbeats 4000000 in
theorem te_w0 {cs : ex_C} {Q : ex_Q} {I : Nat → Option (ex_L → ex_V → ex_C → Prop)} {c m : Int32} (hI : ∀ pc, I pc = none) (hk1 : ab_hk ab_hd cs) (hQ : ∀ (x : Int32) cs', ab_hk ab_hd cs' → ab_fr [(64, some 1), (65, none), (75, none)] cs cs' → x.toInt = hu_t (gi cs 7 6) (gi cs 7 7) (gi cs 64 1) c m (hu_P (gi cs 7) (gi cs 10) (gi cs 11) (gi cs 65) c m) → (gi cs' 64 1).toInt = hu_s (gi cs 7 6) (gi cs 7 7) (gi cs 64 1) c m (hu_P (gi cs 7) (gi cs 10) (gi cs 11) (gi cs 65) c m) → Q (some (.int x)) cs') : ex_wp ec_xt bx_X9_test cX9_test (some .int) I Q 60 0 [some (.ref 0), some (.int c), some (.int m)] [] cs := by
  obtain ⟨gs, h64, -⟩ := hu_hun hk1
  obtain ⟨ts, h0, -, hj0⟩ := hk1.obj (a := 0) (ci := 9) rfl
  have t3 : ts[3]? = some (.ref 64) := by
    obtain ⟨v, hv, hc⟩ := hj0 3 (.inl 64) rfl
    cases hc
    exact hv
  have t1 : ts[1]? = some (.ref 6) := by
    obtain ⟨v, hv, hc⟩ := hj0 1 (.inl 6) rfl
    cases hc
    exact hv
  obtain ⟨ws, h6, -, hj6⟩ := hk1.obj (a := 6) (ci := 8) rfl
  have w1 : ws[1]? = some (.ref 7) := by
    obtain ⟨v, hv, hc⟩ := hj6 1 (.inl 7) rfl
    cases hc
    exact hv
  refine wq_aload_n dX9_test_0 rfl rfl ?_
  refine go_wp (hI _) (wq_aload_n dX9_test_1 rfl rfl ?_)
  refine go_wp (hI _) (wq_getfield dX9_test_2 fe_X9_31 h0 t3 rfl ?_)
  refine go_wp (hI _) (wq_aload_n dX9_test_5 rfl rfl ?_)
  refine go_wp (hI _) (wq_getfield dX9_test_6 fe_X9_21 h0 t1 rfl ?_)
  refine go_wp (hI _) (wq_getfield dX9_test_9 fe_X9_54 h6 w1 rfl ?_)
  refine go_wp (hI _) (wq_iload_n dX9_test_12 rfl rfl ?_)
  refine go_wp (hI _) (wq_iload_n dX9_test_13 rfl rfl ?_)
  refine go_wp (hI _) (wq_virtual (q := 4) (ci := 4) (a := 64) (av := [.ref 64, .ref 7, .int c, .int m]) (r := [.ref 0]) dX9_test_14 rfl (Nat.le_of_ble_eq_true rfl) rfl rfl rfl (Nat.le_of_ble_eq_true rfl) h64 rfl (hx_call 0 (c := ([.inl 64, .inl 7, .inr ((-2147483648), 2147483647), .inr ((-2147483648), 2147483647)], [], [(64, some 1), (65, none)], [(some ((-2147483648), 2147483647, some (900000004, 0)), [], [((1, 64, 1), (-2147483648), 2147483647, some (900000005, 0))])])) rfl (hx_pr4 hx_cr hx_cr (hx_ci (hx_tb _)) (hx_ci (hx_tb _))) hk1 (fun r cs1 hp => ?_)))
  obtain ⟨hk1, hf1, x, rfl, hx, hn1⟩ := hu_int hp
  refine ret_int ?_
  rw [hg_4] at hx
  have hs1 := hu_q hn1 0 rfl
  rw [hg_5] at hs1
  obtain ⟨ts1, h0b, -, -⟩ := hk1.obj (a := 0) (ci := 9) rfl
  refine go_wp (hI _) (wq_virtual (q := 2) (ci := 9) (a := 0) (av := [.ref 0, .int x]) (r := []) dX9_test_17 rfl (Nat.le_of_ble_eq_true rfl) rfl rfl rfl (Nat.le_of_ble_eq_true rfl) h0b rfl (hx_call 11 (c := ([.inl 0, .inr ((-2147483648), 2147483647)], [], [(75, none)], [(some ((-2147483648), 2147483647, some (1, 0)), [], [])])) rfl (hx_pr2 hx_cr (hx_ci (hx_tb _))) hk1 (fun r cs2 hp => ?_)))
  obtain ⟨hk2, hf2, y, rfl, hy, -⟩ := hu_int hp
  refine ret_int ?_
  rw [hx_op (x := x) (by decide) rfl] at hy
  refine go_wp (hI _) (wq_ireturn dX9_test_20 trivial (hQ _ _ hk2 ((hf1.sub (by decide)).tr (hf2.sub (by decide))) (hy.trans hx) ((congrArg Int32.toInt (gi_f1 hf2 rfl)).trans hs1)))
set_option maxRecDepth 100000 in
theorem bm_X9_test (l : Launch) : ex_Met l yX9_test cX9_test 3 (some .int) 3 70 (ab_sp ab_hd bc_X9_test) := by
  intro D ad ca n sz av cs Q h
  refine ex_lmet (by decide) rfl (bj_X9_test l) D ad ca n sz av cs Q ?_
  obtain ⟨c0, hc0, ⟨hp1, hp2, -⟩, hk, hQ⟩ := h
  have hc' : c0 = ([.inl 0, .inr (-2147483648, 2147483647), .inr (-2147483648, 2147483647)], [], [(64, some 1), (65, none), (75, none)], [(some (-2147483648, 2147483647, some (900000000, 0)), [], [((1, 64, 1), -2147483648, 2147483647, some (900000001, 0))])]) := by
    unfold bc_X9_test bq_X9_test at hc0
    simpa using hc0
  subst hc'
  obtain ⟨v0, e0, pz0⟩ := hp2 0 _ rfl
  obtain ⟨v1, e1, c, rfl, c1, c2⟩ := hp2 1 _ rfl
  obtain ⟨v2, e2, m, rfl, m1, m2⟩ := hp2 2 _ rfl
  cases pz0
  have hav : av = [.ref 0, .int c, .int m] := hx_av3 hp1 e0 e1 e2
  subst hav
  refine sl_in 60 (fun _ => none) rfl (Nat.le_of_ble_eq_true rfl) rfl (te_w0 (fun _ => rfl) hk (fun x cs' hk' hf' hx hs => ?_)) (fun pc J n lv st cs' hI hJ => (by cases hI))
  refine hQ _ _ ⟨hk', hf', _, List.mem_cons_self, ⟨x, rfl, hx_tb x, fun d hd => ?_⟩, fun q hq => (by cases hq), fun q hq => ?_⟩
  · cases hd
    rw [hg_0, hx]
    show _ = _ + (0 : Int)
    omega
  · rcases List.mem_singleton.mp hq with rfl
    exact hu_ff (hu_r64 hk') (by rw [hg_1]; exact hs)
theorem ba_X9_best : ec_al [(979, Cond.code yX9_best cX9_best 2 (some .int)), (58, Cond.initialized yX9_best.cls), (977, Cond.instanceMethod yX9_best), (978, Cond.selects yX9_best.cls yX9_best yX9_best), (980, Cond.methodLink RX9 207 yX4_bestTest), (424, Cond.methodLink RX9 64 yX9_counted)] := ec_alk (by decide +kernel)
theorem bw_X9_best : ec_cw yX9_best cX9_best 2 (some .int) := ⟨ba_X9_best.1, ba_X9_best.2.1, nc_RX9⟩
theorem bv_X9_best : Cond.instanceMethod yX9_best ∈ ec_tb ∧ Cond.selects yX9_best.cls yX9_best yX9_best ∈ ec_tb := ⟨ba_X9_best.2.2.1, ba_X9_best.2.2.2.1⟩
theorem bp_X9_best : (parseMethodDescriptor yX9_best.desc).map (fun d => d.parameters.length) = some 1 := by decide +kernel
theorem bk_X9_best (l : Launch) : ∀ (ix n : Nat) (rc : Option Nat) (sp : ex_S), (be_X9_best ix).map (fun q => (q.1, q.2.1, ab_sp ab_hd q.2.2)) = some (n, rc, sp) → ex_cok l RX9 4 98 ix n rc sp := by
  intro ix n rc sp h
  obtain ⟨l0, h2, rfl⟩ := ab_dmk h
  clear h
  unfold be_X9_best at h2
  split at h2
  · cases h2; exact ec_cV (bm_X4_bestTest l) bw_X4_bestTest bv_X4_bestTest (by decide) (by decide) (Or.inl ba_X9_best.2.2.2.2.1) (T := TX4) (N := 2) rfl (by decide) bp_X4_bestTest
  · cases h2; exact ec_cV (bm_X9_counted l) bw_X9_counted bv_X9_counted (by decide) (by decide) (Or.inl ba_X9_best.2.2.2.2.2.1) (T := TX9) (N := 10) rfl (by decide) bp_X9_counted
  · cases h2
theorem bj_X9_best (l : Launch) : ex_ok l 4 98 bx_X9_best := ec_okp fo_X9 co_X9 so_X9 (bk_X9_best l)
theorem dX9_best_0 : decode cX9_best 0 = .ok (.aload_n 0, 1) := by decide +kernel
theorem dX9_best_1 : decode cX9_best 1 = .ok (.aload_n 0, 1) := by decide +kernel
theorem dX9_best_2 : decode cX9_best 2 = .ok (.getfield 31, 3) := by decide +kernel
theorem dX9_best_5 : decode cX9_best 5 = .ok (.aload_n 0, 1) := by decide +kernel
theorem dX9_best_6 : decode cX9_best 6 = .ok (.getfield 21, 3) := by decide +kernel
theorem dX9_best_9 : decode cX9_best 9 = .ok (.getfield 54, 3) := by decide +kernel
theorem dX9_best_12 : decode cX9_best 12 = .ok (.iload_n 1, 1) := by decide +kernel
theorem dX9_best_13 : decode cX9_best 13 = .ok (.invokevirtual 207, 3) := by decide +kernel
theorem dX9_best_16 : decode cX9_best 16 = .ok (.invokevirtual 64, 3) := by decide +kernel
theorem dX9_best_19 : decode cX9_best 19 = .ok (.ireturn, 1) := by decide +kernel
set_option maxRecDepth 100000 in
set_option maxHeartbeats 4000000 in
theorem bx_w0 {cs : ex_C} {Q : ex_Q} {I : Nat → Option (ex_L → ex_V → ex_C → Prop)} {w : Int32} (hI : ∀ pc, I pc = none) (hk1 : ab_hk ab_hd cs) (hQ : ∀ (r : Int32) cs', ab_hk ab_hd cs' → ab_fr [(65, none), (75, none)] cs cs' → r.toInt = (bt (gi cs 7) (gi cs 10) (gi cs 11) (gi cs 64) (gi cs 65) w) → Q (some (.int r)) cs') : ex_wp ec_xt bx_X9_best cX9_best (some .int) I Q 60 0 [some (.ref 0), some (.int w)] [] cs := by
  obtain ⟨gs, h64, -⟩ := hu_hun hk1
  obtain ⟨ts, h0, -, hj0⟩ := hk1.obj (a := 0) (ci := 9) rfl
  have t3 : ts[3]? = some (.ref 64) := by
    obtain ⟨v, hv, hc⟩ := hj0 3 (.inl 64) rfl
    cases hc
    exact hv
  have t1 : ts[1]? = some (.ref 6) := by
    obtain ⟨v, hv, hc⟩ := hj0 1 (.inl 6) rfl
    cases hc
    exact hv
  obtain ⟨ws, h6, -, hj6⟩ := hk1.obj (a := 6) (ci := 8) rfl
  have w1 : ws[1]? = some (.ref 7) := by
    obtain ⟨v, hv, hc⟩ := hj6 1 (.inl 7) rfl
    cases hc
    exact hv
  refine wq_aload_n dX9_best_0 rfl rfl ?_
  refine go_wp (hI _) (wq_aload_n dX9_best_1 rfl rfl ?_)
  refine go_wp (hI _) (wq_getfield dX9_best_2 fe_X9_31 h0 t3 rfl ?_)
  refine go_wp (hI _) (wq_aload_n dX9_best_5 rfl rfl ?_)
  refine go_wp (hI _) (wq_getfield dX9_best_6 fe_X9_21 h0 t1 rfl ?_)
  refine go_wp (hI _) (wq_getfield dX9_best_9 fe_X9_54 h6 w1 rfl ?_)
  refine go_wp (hI _) (wq_iload_n dX9_best_12 rfl rfl ?_)
  refine go_wp (hI _) (wq_virtual (q := 3) (ci := 4) (a := 64) (av := [.ref 64, .ref 7, .int w]) (r := [.ref 0]) dX9_best_13 rfl (Nat.le_of_ble_eq_true rfl) rfl rfl rfl (Nat.le_of_ble_eq_true rfl) h64 rfl (hx_call 0 (c := ([.inl 64, .inl 7, .inr ((-2147483648), 2147483647)], [], [(65, none)], [(some ((-2147483648), 2147483647, some (900000031, 0)), [], [])])) rfl (hx_pr3 hx_cr hx_cr (hx_ci (hx_tb _))) hk1 (fun r cs1 hp => ?_)))
  obtain ⟨hk1, hf1, x, rfl, hx, -⟩ := hu_int hp
  refine ret_int ?_
  rw [hg_31] at hx
  obtain ⟨ts1, h0b, -, -⟩ := hk1.obj (a := 0) (ci := 9) rfl
  refine go_wp (hI _) (wq_virtual (q := 2) (ci := 9) (a := 0) (av := [.ref 0, .int x]) (r := []) dX9_best_16 rfl (Nat.le_of_ble_eq_true rfl) rfl rfl rfl (Nat.le_of_ble_eq_true rfl) h0b rfl (hx_call 11 (c := ([.inl 0, .inr ((-2147483648), 2147483647)], [], [(75, none)], [(some ((-2147483648), 2147483647, some (1, 0)), [], [])])) rfl (hx_pr2 hx_cr (hx_ci (hx_tb _))) hk1 (fun r cs2 hp => ?_)))
  obtain ⟨hk2, hf2, y, rfl, hy, -⟩ := hu_int hp
  refine ret_int ?_
  rw [hx_op (x := x) (by decide) rfl] at hy
  refine go_wp (hI _) (wq_ireturn dX9_best_19 trivial (hQ _ _ hk2 ((hf1.sub (by decide)).tr (hf2.sub (by decide))) (hy.trans hx)))
set_option maxRecDepth 100000 in
theorem bm_X9_best (l : Launch) : ex_Met l yX9_best cX9_best 2 (some .int) 4 98 (ab_sp ab_hd bc_X9_best) := by
  intro D ad ca n sz av cs Q h
  refine ex_lmet (by decide) rfl (bj_X9_best l) D ad ca n sz av cs Q ?_
  obtain ⟨c0, hc0, ⟨hp1, hp2, -⟩, hk, hQ⟩ := h
  have hc' : c0 = ([.inl 0, .inr (-2147483648, 2147483647)], [], [(65, none), (75, none)], [(some (-2147483648, 2147483647, some (900000032, 0)), [], [])]) := by
    unfold bc_X9_best bq_X9_best at hc0
    simpa using hc0
  subst hc'
  obtain ⟨v0, e0, pz0⟩ := hp2 0 _ rfl
  obtain ⟨v1, e1, w, rfl, w1, w2⟩ := hp2 1 _ rfl
  cases pz0
  have hav : av = [.ref 0, .int w] := hx_av2 hp1 e0 e1
  subst hav
  have hQ' : ∀ (r : Int32) cs', ab_hk ab_hd cs' → ab_fr [(65, none), (75, none)] cs cs' → r.toInt = (bt (gi cs 7) (gi cs 10) (gi cs 11) (gi cs 64) (gi cs 65) w) → Q (some (.int r)) cs' := by
    intro r cs' hk' hf' hr
    refine hQ _ _ ⟨hk', hf', _, List.mem_cons_self, ⟨r, rfl, hx_tb r, fun d hd => ?_⟩, fun q hq => (by cases hq), fun q hq => (by cases hq)⟩
    cases hd
    show _ = ab_oo _ _ _ + (0 : Int)
    rw [hg_32, hr]
    omega
  exact sl_in 60 (fun _ => none) rfl (Nat.le_of_ble_eq_true rfl) rfl (bx_w0 (fun _ => rfl) hk hQ') (fun pc J n lv st cs' hI hJ => (by cases hI))
theorem ba_X9_suspects : ec_al [(995, Cond.code yX9_suspects cX9_suspects 1 (some .int)), (58, Cond.initialized yX9_suspects.cls), (993, Cond.instanceMethod yX9_suspects), (994, Cond.selects yX9_suspects.cls yX9_suspects yX9_suspects)] := ec_alk (by decide +kernel)
theorem bw_X9_suspects : ec_cw yX9_suspects cX9_suspects 1 (some .int) := ⟨ba_X9_suspects.1, ba_X9_suspects.2.1, nc_RX9⟩
theorem bv_X9_suspects : Cond.instanceMethod yX9_suspects ∈ ec_tb ∧ Cond.selects yX9_suspects.cls yX9_suspects yX9_suspects ∈ ec_tb := ⟨ba_X9_suspects.2.2.1, ba_X9_suspects.2.2.2.1⟩
theorem bp_X9_suspects : (parseMethodDescriptor yX9_suspects.desc).map (fun d => d.parameters.length) = some 0 := by decide +kernel
theorem bj_X9_suspects (l : Launch) : ex_ok l 0 0 bx_X9_suspects := ec_okp fo_X9 co_X9 so_X9 (ec_okn)
theorem bm_X9_suspects (l : Launch) : ex_Met l yX9_suspects cX9_suspects 1 (some .int) 0 0 (ab_sp ab_hd bc_X9_suspects) := ab_met (by decide) pn_RX9 rfl (bj_X9_suspects l) bd_X9_suspects ab_hcm ab_xk bz_X9_suspects
theorem ba_X9_read : ec_al [(999, Cond.code yX9_read cX9_read 3 (some .int)), (58, Cond.initialized yX9_read.cls), (997, Cond.instanceMethod yX9_read), (998, Cond.selects yX9_read.cls yX9_read yX9_read), (1000, Cond.methodLink RX9 214 yX5_addReading), (424, Cond.methodLink RX9 64 yX9_counted)] := ec_alk (by decide +kernel)
theorem bw_X9_read : ec_cw yX9_read cX9_read 3 (some .int) := ⟨ba_X9_read.1, ba_X9_read.2.1, nc_RX9⟩
theorem bv_X9_read : Cond.instanceMethod yX9_read ∈ ec_tb ∧ Cond.selects yX9_read.cls yX9_read yX9_read ∈ ec_tb := ⟨ba_X9_read.2.2.1, ba_X9_read.2.2.2.1⟩
theorem bp_X9_read : (parseMethodDescriptor yX9_read.desc).map (fun d => d.parameters.length) = some 2 := by decide +kernel
theorem bk_X9_read (l : Launch) : ∀ (ix n : Nat) (rc : Option Nat) (sp : ex_S), (be_X9_read ix).map (fun q => (q.1, q.2.1, ab_sp ab_hd q.2.2)) = some (n, rc, sp) → ex_cok l RX9 2 43 ix n rc sp := by
  intro ix n rc sp h
  obtain ⟨l0, h2, rfl⟩ := ab_dmk h
  clear h
  unfold be_X9_read at h2
  split at h2
  · cases h2; exact ec_cV (bm_X5_addReading l) bw_X5_addReading bv_X5_addReading (by decide) (by decide) (Or.inl ba_X9_read.2.2.2.2.1) (T := TX5) (N := 10) rfl (by decide) bp_X5_addReading
  · cases h2; exact ec_cV (bm_X9_counted l) bw_X9_counted bv_X9_counted (by decide) (by decide) (Or.inl ba_X9_read.2.2.2.2.2.1) (T := TX9) (N := 10) rfl (by decide) bp_X9_counted
  · cases h2
theorem bj_X9_read (l : Launch) : ex_ok l 2 43 bx_X9_read := ec_okp fo_X9 co_X9 so_X9 (bk_X9_read l)
theorem bm_X9_read (l : Launch) : ex_Met l yX9_read cX9_read 3 (some .int) 2 43 (ab_sp ab_hd bc_X9_read) := ab_met (by decide) pn_RX9 rfl (bj_X9_read l) bd_X9_read ab_hcm ab_xk bz_X9_read
theorem ba_X9_calibrate : ec_al [(1012, Cond.code yX9_calibrate cX9_calibrate 3 (some .int)), (58, Cond.initialized yX9_calibrate.cls), (1010, Cond.instanceMethod yX9_calibrate), (1011, Cond.selects yX9_calibrate.cls yX9_calibrate yX9_calibrate), (1013, Cond.methodLink RX9 217 yX5_addCalibration), (424, Cond.methodLink RX9 64 yX9_counted)] := ec_alk (by decide +kernel)
theorem bw_X9_calibrate : ec_cw yX9_calibrate cX9_calibrate 3 (some .int) := ⟨ba_X9_calibrate.1, ba_X9_calibrate.2.1, nc_RX9⟩
theorem bv_X9_calibrate : Cond.instanceMethod yX9_calibrate ∈ ec_tb ∧ Cond.selects yX9_calibrate.cls yX9_calibrate yX9_calibrate ∈ ec_tb := ⟨ba_X9_calibrate.2.2.1, ba_X9_calibrate.2.2.2.1⟩
theorem bp_X9_calibrate : (parseMethodDescriptor yX9_calibrate.desc).map (fun d => d.parameters.length) = some 2 := by decide +kernel
theorem bk_X9_calibrate (l : Launch) : ∀ (ix n : Nat) (rc : Option Nat) (sp : ex_S), (be_X9_calibrate ix).map (fun q => (q.1, q.2.1, ab_sp ab_hd q.2.2)) = some (n, rc, sp) → ex_cok l RX9 2 43 ix n rc sp := by
  intro ix n rc sp h
  obtain ⟨l0, h2, rfl⟩ := ab_dmk h
  clear h
  unfold be_X9_calibrate at h2
  split at h2
  · cases h2; exact ec_cV (bm_X5_addCalibration l) bw_X5_addCalibration bv_X5_addCalibration (by decide) (by decide) (Or.inl ba_X9_calibrate.2.2.2.2.1) (T := TX5) (N := 10) rfl (by decide) bp_X5_addCalibration
  · cases h2; exact ec_cV (bm_X9_counted l) bw_X9_counted bv_X9_counted (by decide) (by decide) (Or.inl ba_X9_calibrate.2.2.2.2.2.1) (T := TX9) (N := 10) rfl (by decide) bp_X9_counted
  · cases h2
theorem bj_X9_calibrate (l : Launch) : ex_ok l 2 43 bx_X9_calibrate := ec_okp fo_X9 co_X9 so_X9 (bk_X9_calibrate l)
theorem bm_X9_calibrate (l : Launch) : ex_Met l yX9_calibrate cX9_calibrate 3 (some .int) 2 43 (ab_sp ab_hd bc_X9_calibrate) := ab_met (by decide) pn_RX9 rfl (bj_X9_calibrate l) bd_X9_calibrate ab_hcm ab_xk bz_X9_calibrate
theorem ba_X9_worked : ec_al [(1020, Cond.code yX9_worked cX9_worked 2 (some .int)), (58, Cond.initialized yX9_worked.cls), (1018, Cond.instanceMethod yX9_worked), (1019, Cond.selects yX9_worked.cls yX9_worked yX9_worked), (1021, Cond.methodLink RX9 220 yX5_workedBack), (424, Cond.methodLink RX9 64 yX9_counted)] := ec_alk (by decide +kernel)
theorem bw_X9_worked : ec_cw yX9_worked cX9_worked 2 (some .int) := ⟨ba_X9_worked.1, ba_X9_worked.2.1, nc_RX9⟩
theorem bv_X9_worked : Cond.instanceMethod yX9_worked ∈ ec_tb ∧ Cond.selects yX9_worked.cls yX9_worked yX9_worked ∈ ec_tb := ⟨ba_X9_worked.2.2.1, ba_X9_worked.2.2.2.1⟩
theorem bp_X9_worked : (parseMethodDescriptor yX9_worked.desc).map (fun d => d.parameters.length) = some 1 := by decide +kernel
theorem bk_X9_worked (l : Launch) : ∀ (ix n : Nat) (rc : Option Nat) (sp : ex_S), (be_X9_worked ix).map (fun q => (q.1, q.2.1, ab_sp ab_hd q.2.2)) = some (n, rc, sp) → ex_cok l RX9 3 71 ix n rc sp := by
  intro ix n rc sp h
  obtain ⟨l0, h2, rfl⟩ := ab_dmk h
  clear h
  unfold be_X9_worked at h2
  split at h2
  · cases h2; exact ec_cV (bm_X5_workedBack l) bw_X5_workedBack bv_X5_workedBack (by decide) (by decide) (Or.inl ba_X9_worked.2.2.2.2.1) (T := TX5) (N := 10) rfl (by decide) bp_X5_workedBack
  · cases h2; exact ec_cV (bm_X9_counted l) bw_X9_counted bv_X9_counted (by decide) (by decide) (Or.inl ba_X9_worked.2.2.2.2.2.1) (T := TX9) (N := 10) rfl (by decide) bp_X9_counted
  · cases h2
theorem bj_X9_worked (l : Launch) : ex_ok l 3 71 bx_X9_worked := ec_okp fo_X9 co_X9 so_X9 (bk_X9_worked l)
theorem bm_X9_worked (l : Launch) : ex_Met l yX9_worked cX9_worked 2 (some .int) 3 71 (ab_sp ab_hd bc_X9_worked) := ab_met (by decide) pn_RX9 rfl (bj_X9_worked l) bd_X9_worked ab_hcm ab_xk bz_X9_worked
theorem ba_X9_delay : ec_al [(1036, Cond.code yX9_delay cX9_delay 2 (some .int)), (58, Cond.initialized yX9_delay.cls), (1034, Cond.instanceMethod yX9_delay), (1035, Cond.selects yX9_delay.cls yX9_delay yX9_delay), (1037, Cond.methodLink RX9 223 yX5_setDelay), (424, Cond.methodLink RX9 64 yX9_counted)] := ec_alk (by decide +kernel)
theorem bw_X9_delay : ec_cw yX9_delay cX9_delay 2 (some .int) := ⟨ba_X9_delay.1, ba_X9_delay.2.1, nc_RX9⟩
theorem bv_X9_delay : Cond.instanceMethod yX9_delay ∈ ec_tb ∧ Cond.selects yX9_delay.cls yX9_delay yX9_delay ∈ ec_tb := ⟨ba_X9_delay.2.2.1, ba_X9_delay.2.2.2.1⟩
theorem bp_X9_delay : (parseMethodDescriptor yX9_delay.desc).map (fun d => d.parameters.length) = some 1 := by decide +kernel
theorem bk_X9_delay (l : Launch) : ∀ (ix n : Nat) (rc : Option Nat) (sp : ex_S), (be_X9_delay ix).map (fun q => (q.1, q.2.1, ab_sp ab_hd q.2.2)) = some (n, rc, sp) → ex_cok l RX9 1 22 ix n rc sp := by
  intro ix n rc sp h
  obtain ⟨l0, h2, rfl⟩ := ab_dmk h
  clear h
  unfold be_X9_delay at h2
  split at h2
  · cases h2; exact ec_cV (bm_X5_setDelay l) bw_X5_setDelay bv_X5_setDelay (by decide) (by decide) (Or.inl ba_X9_delay.2.2.2.2.1) (T := TX5) (N := 10) rfl (by decide) bp_X5_setDelay
  · cases h2; exact ec_cV (bm_X9_counted l) bw_X9_counted bv_X9_counted (by decide) (by decide) (Or.inl ba_X9_delay.2.2.2.2.2.1) (T := TX9) (N := 10) rfl (by decide) bp_X9_counted
  · cases h2
theorem bj_X9_delay (l : Launch) : ex_ok l 1 22 bx_X9_delay := ec_okp fo_X9 co_X9 so_X9 (bk_X9_delay l)
theorem bm_X9_delay (l : Launch) : ex_Met l yX9_delay cX9_delay 2 (some .int) 1 22 (ab_sp ab_hd bc_X9_delay) := ab_met (by decide) pn_RX9 rfl (bj_X9_delay l) bd_X9_delay ab_hcm ab_xk bz_X9_delay
theorem ba_X9_known : ec_al [(1044, Cond.code yX9_known cX9_known 3 (some .int)), (58, Cond.initialized yX9_known.cls), (1042, Cond.instanceMethod yX9_known), (1043, Cond.selects yX9_known.cls yX9_known yX9_known), (1045, Cond.methodLink RX9 226 yX5_latestHeard), (424, Cond.methodLink RX9 64 yX9_counted)] := ec_alk (by decide +kernel)
theorem bw_X9_known : ec_cw yX9_known cX9_known 3 (some .int) := ⟨ba_X9_known.1, ba_X9_known.2.1, nc_RX9⟩
theorem bv_X9_known : Cond.instanceMethod yX9_known ∈ ec_tb ∧ Cond.selects yX9_known.cls yX9_known yX9_known ∈ ec_tb := ⟨ba_X9_known.2.2.1, ba_X9_known.2.2.2.1⟩
theorem bp_X9_known : (parseMethodDescriptor yX9_known.desc).map (fun d => d.parameters.length) = some 2 := by decide +kernel
theorem bk_X9_known (l : Launch) : ∀ (ix n : Nat) (rc : Option Nat) (sp : ex_S), (be_X9_known ix).map (fun q => (q.1, q.2.1, ab_sp ab_hd q.2.2)) = some (n, rc, sp) → ex_cok l RX9 2 43 ix n rc sp := by
  intro ix n rc sp h
  obtain ⟨l0, h2, rfl⟩ := ab_dmk h
  clear h
  unfold be_X9_known at h2
  split at h2
  · cases h2; exact ec_cV (bm_X5_latestHeard l) bw_X5_latestHeard bv_X5_latestHeard (by decide) (by decide) (Or.inl ba_X9_known.2.2.2.2.1) (T := TX5) (N := 10) rfl (by decide) bp_X5_latestHeard
  · cases h2; exact ec_cV (bm_X9_counted l) bw_X9_counted bv_X9_counted (by decide) (by decide) (Or.inl ba_X9_known.2.2.2.2.2.1) (T := TX9) (N := 10) rfl (by decide) bp_X9_counted
  · cases h2
theorem bj_X9_known (l : Launch) : ex_ok l 2 43 bx_X9_known := ec_okp fo_X9 co_X9 so_X9 (bk_X9_known l)
theorem bm_X9_known (l : Launch) : ex_Met l yX9_known cX9_known 3 (some .int) 2 43 (ab_sp ab_hd bc_X9_known) := ab_met (by decide) pn_RX9 rfl (bj_X9_known l) bd_X9_known ab_hcm ab_xk bz_X9_known
theorem ba_X9_isMass : ec_al [(1060, Cond.code yX9_isMass cX9_isMass 1 (some .boolean)), (58, Cond.initialized yX9_isMass.cls), (1059, Cond.static yX9_isMass)] := ec_alk (by decide +kernel)
theorem bw_X9_isMass : ec_cw yX9_isMass cX9_isMass 1 (some .boolean) := ⟨ba_X9_isMass.1, ba_X9_isMass.2.1, nc_RX9⟩
theorem bv_X9_isMass : Cond.static yX9_isMass ∈ ec_tb := ba_X9_isMass.2.2.1
theorem bp_X9_isMass : (parseMethodDescriptor yX9_isMass.desc).map (fun d => d.parameters.length) = some 1 := by decide +kernel
theorem bj_X9_isMass (l : Launch) : ex_ok l 0 0 bx_X9_isMass := ec_okp fo_X9 co_X9 so_X9 (ec_okn)
theorem bm_X9_isMass (l : Launch) : ex_Met l yX9_isMass cX9_isMass 1 (some .boolean) 0 0 (ab_sp ab_hd bc_X9_isMass) := ab_met (by decide) pn_RX9 rfl (bj_X9_isMass l) bd_X9_isMass ab_hcm ab_xk bz_X9_isMass
theorem ba_X9_setMass : ec_al [(1057, Cond.code yX9_setMass cX9_setMass 3 (some .int)), (58, Cond.initialized yX9_setMass.cls), (1056, Cond.instanceMethod yX9_setMass), (24, Cond.selects yX9_setMass.cls yX9_setMass yX9_setMass), (1058, Cond.methodLink RX9 235 yX9_isMass)] := ec_alk (by decide +kernel)
theorem bw_X9_setMass : ec_cw yX9_setMass cX9_setMass 3 (some .int) := ⟨ba_X9_setMass.1, ba_X9_setMass.2.1, nc_RX9⟩
theorem bv_X9_setMass : Cond.instanceMethod yX9_setMass ∈ ec_tb ∧ Cond.selects yX9_setMass.cls yX9_setMass yX9_setMass ∈ ec_tb := ⟨ba_X9_setMass.2.2.1, ba_X9_setMass.2.2.2.1⟩
theorem bp_X9_setMass : (parseMethodDescriptor yX9_setMass.desc).map (fun d => d.parameters.length) = some 1 := by decide +kernel
theorem bk_X9_setMass (l : Launch) : ∀ (ix n : Nat) (rc : Option Nat) (sp : ex_S), (be_X9_setMass ix).map (fun q => (q.1, q.2.1, ab_sp ab_hd q.2.2)) = some (n, rc, sp) → ex_cok l RX9 1 20 ix n rc sp := by
  intro ix n rc sp h
  obtain ⟨l0, h2, rfl⟩ := ab_dmk h
  clear h
  unfold be_X9_setMass at h2
  split at h2
  · cases h2; exact ec_cS (bm_X9_isMass l) bw_X9_isMass bv_X9_isMass (by decide) (by decide) (Or.inl ba_X9_setMass.2.2.2.2.1) bp_X9_isMass
  · cases h2
theorem bj_X9_setMass (l : Launch) : ex_ok l 1 20 bx_X9_setMass := ec_okp fo_X9 co_X9 so_X9 (bk_X9_setMass l)
theorem bm_X9_setMass (l : Launch) : ex_Met l yX9_setMass cX9_setMass 3 (some .int) 1 20 (ab_sp ab_hd bc_X9_setMass) := ab_met (by decide) pn_RX9 rfl (bj_X9_setMass l) bd_X9_setMass ab_hcm ab_xk bz_X9_setMass
theorem ba_X9_isSpeed : ec_al [(1068, Cond.code yX9_isSpeed cX9_isSpeed 1 (some .boolean)), (58, Cond.initialized yX9_isSpeed.cls), (1067, Cond.static yX9_isSpeed)] := ec_alk (by decide +kernel)
theorem bw_X9_isSpeed : ec_cw yX9_isSpeed cX9_isSpeed 1 (some .boolean) := ⟨ba_X9_isSpeed.1, ba_X9_isSpeed.2.1, nc_RX9⟩
theorem bv_X9_isSpeed : Cond.static yX9_isSpeed ∈ ec_tb := ba_X9_isSpeed.2.2.1
theorem bp_X9_isSpeed : (parseMethodDescriptor yX9_isSpeed.desc).map (fun d => d.parameters.length) = some 1 := by decide +kernel
theorem bj_X9_isSpeed (l : Launch) : ex_ok l 0 0 bx_X9_isSpeed := ec_okp fo_X9 co_X9 so_X9 (ec_okn)
theorem bm_X9_isSpeed (l : Launch) : ex_Met l yX9_isSpeed cX9_isSpeed 1 (some .boolean) 0 0 (ab_sp ab_hd bc_X9_isSpeed) := ab_met (by decide) pn_RX9 rfl (bj_X9_isSpeed l) bd_X9_isSpeed ab_hcm ab_xk bz_X9_isSpeed
theorem ba_X9_setSpeed : ec_al [(1065, Cond.code yX9_setSpeed cX9_setSpeed 3 (some .int)), (58, Cond.initialized yX9_setSpeed.cls), (1064, Cond.instanceMethod yX9_setSpeed), (25, Cond.selects yX9_setSpeed.cls yX9_setSpeed yX9_setSpeed), (1066, Cond.methodLink RX9 238 yX9_isSpeed)] := ec_alk (by decide +kernel)
theorem bw_X9_setSpeed : ec_cw yX9_setSpeed cX9_setSpeed 3 (some .int) := ⟨ba_X9_setSpeed.1, ba_X9_setSpeed.2.1, nc_RX9⟩
theorem bv_X9_setSpeed : Cond.instanceMethod yX9_setSpeed ∈ ec_tb ∧ Cond.selects yX9_setSpeed.cls yX9_setSpeed yX9_setSpeed ∈ ec_tb := ⟨ba_X9_setSpeed.2.2.1, ba_X9_setSpeed.2.2.2.1⟩
theorem bp_X9_setSpeed : (parseMethodDescriptor yX9_setSpeed.desc).map (fun d => d.parameters.length) = some 1 := by decide +kernel
theorem bk_X9_setSpeed (l : Launch) : ∀ (ix n : Nat) (rc : Option Nat) (sp : ex_S), (be_X9_setSpeed ix).map (fun q => (q.1, q.2.1, ab_sp ab_hd q.2.2)) = some (n, rc, sp) → ex_cok l RX9 1 20 ix n rc sp := by
  intro ix n rc sp h
  obtain ⟨l0, h2, rfl⟩ := ab_dmk h
  clear h
  unfold be_X9_setSpeed at h2
  split at h2
  · cases h2; exact ec_cS (bm_X9_isSpeed l) bw_X9_isSpeed bv_X9_isSpeed (by decide) (by decide) (Or.inl ba_X9_setSpeed.2.2.2.2.1) bp_X9_isSpeed
  · cases h2
theorem bj_X9_setSpeed (l : Launch) : ex_ok l 1 20 bx_X9_setSpeed := ec_okp fo_X9 co_X9 so_X9 (bk_X9_setSpeed l)
theorem bm_X9_setSpeed (l : Launch) : ex_Met l yX9_setSpeed cX9_setSpeed 3 (some .int) 1 20 (ab_sp ab_hd bc_X9_setSpeed) := ab_met (by decide) pn_RX9 rfl (bj_X9_setSpeed l) bd_X9_setSpeed ab_hcm ab_xk bz_X9_setSpeed
theorem ba_X9_mass : ec_al [(1053, Cond.code yX9_mass cX9_mass 3 (some .int)), (58, Cond.initialized yX9_mass.cls), (1051, Cond.instanceMethod yX9_mass), (1052, Cond.selects yX9_mass.cls yX9_mass yX9_mass), (1054, Cond.methodLink RX9 229 yX9_setMass), (424, Cond.methodLink RX9 64 yX9_counted), (1062, Cond.methodLink RX9 232 yX9_setSpeed)] := ec_alk (by decide +kernel)
theorem bw_X9_mass : ec_cw yX9_mass cX9_mass 3 (some .int) := ⟨ba_X9_mass.1, ba_X9_mass.2.1, nc_RX9⟩
theorem bv_X9_mass : Cond.instanceMethod yX9_mass ∈ ec_tb ∧ Cond.selects yX9_mass.cls yX9_mass yX9_mass ∈ ec_tb := ⟨ba_X9_mass.2.2.1, ba_X9_mass.2.2.2.1⟩
theorem bp_X9_mass : (parseMethodDescriptor yX9_mass.desc).map (fun d => d.parameters.length) = some 2 := by decide +kernel
theorem bk_X9_mass (l : Launch) : ∀ (ix n : Nat) (rc : Option Nat) (sp : ex_S), (be_X9_mass ix).map (fun q => (q.1, q.2.1, ab_sp ab_hd q.2.2)) = some (n, rc, sp) → ex_cok l RX9 2 42 ix n rc sp := by
  intro ix n rc sp h
  obtain ⟨l0, h2, rfl⟩ := ab_dmk h
  clear h
  unfold be_X9_mass at h2
  split at h2
  · cases h2; exact ec_cV (bm_X9_setMass l) bw_X9_setMass bv_X9_setMass (by decide) (by decide) (Or.inl ba_X9_mass.2.2.2.2.1) (T := TX9) (N := 10) rfl (by decide) bp_X9_setMass
  · cases h2; exact ec_cV (bm_X9_counted l) bw_X9_counted bv_X9_counted (by decide) (by decide) (Or.inl ba_X9_mass.2.2.2.2.2.1) (T := TX9) (N := 10) rfl (by decide) bp_X9_counted
  · cases h2; exact ec_cV (bm_X9_setSpeed l) bw_X9_setSpeed bv_X9_setSpeed (by decide) (by decide) (Or.inl ba_X9_mass.2.2.2.2.2.2.1) (T := TX9) (N := 10) rfl (by decide) bp_X9_setSpeed
  · cases h2
theorem bj_X9_mass (l : Launch) : ex_ok l 2 42 bx_X9_mass := ec_okp fo_X9 co_X9 so_X9 (bk_X9_mass l)
theorem bm_X9_mass (l : Launch) : ex_Met l yX9_mass cX9_mass 3 (some .int) 2 42 (ab_sp ab_hd bc_X9_mass) := ab_met (by decide) pn_RX9 rfl (bj_X9_mass l) bd_X9_mass ab_hcm ab_xk bz_X9_mass
theorem ba_X9_dock : ec_al [(1072, Cond.code yX9_dock cX9_dock 6 (some .int)), (58, Cond.initialized yX9_dock.cls), (1070, Cond.instanceMethod yX9_dock), (1071, Cond.selects yX9_dock.cls yX9_dock yX9_dock), (1058, Cond.methodLink RX9 235 yX9_isMass), (1066, Cond.methodLink RX9 238 yX9_isSpeed), (424, Cond.methodLink RX9 64 yX9_counted)] := ec_alk (by decide +kernel)
theorem bw_X9_dock : ec_cw yX9_dock cX9_dock 6 (some .int) := ⟨ba_X9_dock.1, ba_X9_dock.2.1, nc_RX9⟩
theorem bv_X9_dock : Cond.instanceMethod yX9_dock ∈ ec_tb ∧ Cond.selects yX9_dock.cls yX9_dock yX9_dock ∈ ec_tb := ⟨ba_X9_dock.2.2.1, ba_X9_dock.2.2.2.1⟩
theorem bp_X9_dock : (parseMethodDescriptor yX9_dock.desc).map (fun d => d.parameters.length) = some 2 := by decide +kernel
theorem bk_X9_dock (l : Launch) : ∀ (ix n : Nat) (rc : Option Nat) (sp : ex_S), (be_X9_dock ix).map (fun q => (q.1, q.2.1, ab_sp ab_hd q.2.2)) = some (n, rc, sp) → ex_cok l RX9 1 21 ix n rc sp := by
  intro ix n rc sp h
  obtain ⟨l0, h2, rfl⟩ := ab_dmk h
  clear h
  unfold be_X9_dock at h2
  split at h2
  · cases h2; exact ec_cS (bm_X9_isMass l) bw_X9_isMass bv_X9_isMass (by decide) (by decide) (Or.inl ba_X9_dock.2.2.2.2.1) bp_X9_isMass
  · cases h2; exact ec_cS (bm_X9_isSpeed l) bw_X9_isSpeed bv_X9_isSpeed (by decide) (by decide) (Or.inl ba_X9_dock.2.2.2.2.2.1) bp_X9_isSpeed
  · cases h2; exact ec_cV (bm_X9_counted l) bw_X9_counted bv_X9_counted (by decide) (by decide) (Or.inl ba_X9_dock.2.2.2.2.2.2.1) (T := TX9) (N := 10) rfl (by decide) bp_X9_counted
  · cases h2
theorem bj_X9_dock (l : Launch) : ex_ok l 1 21 bx_X9_dock := ec_okp fo_X9 co_X9 so_X9 (bk_X9_dock l)
theorem bm_X9_dock (l : Launch) : ex_Met l yX9_dock cX9_dock 6 (some .int) 1 21 (ab_sp ab_hd bc_X9_dock) := ab_met (by decide) pn_RX9 rfl (bj_X9_dock l) bd_X9_dock ab_hcm ab_xk bz_X9_dock
theorem ba_X9_undock : ec_al [(1076, Cond.code yX9_undock cX9_undock 2 (some .int)), (58, Cond.initialized yX9_undock.cls), (1074, Cond.instanceMethod yX9_undock), (1075, Cond.selects yX9_undock.cls yX9_undock yX9_undock), (1058, Cond.methodLink RX9 235 yX9_isMass), (424, Cond.methodLink RX9 64 yX9_counted)] := ec_alk (by decide +kernel)
theorem bw_X9_undock : ec_cw yX9_undock cX9_undock 2 (some .int) := ⟨ba_X9_undock.1, ba_X9_undock.2.1, nc_RX9⟩
theorem bv_X9_undock : Cond.instanceMethod yX9_undock ∈ ec_tb ∧ Cond.selects yX9_undock.cls yX9_undock yX9_undock ∈ ec_tb := ⟨ba_X9_undock.2.2.1, ba_X9_undock.2.2.2.1⟩
theorem bp_X9_undock : (parseMethodDescriptor yX9_undock.desc).map (fun d => d.parameters.length) = some 1 := by decide +kernel
theorem bk_X9_undock (l : Launch) : ∀ (ix n : Nat) (rc : Option Nat) (sp : ex_S), (be_X9_undock ix).map (fun q => (q.1, q.2.1, ab_sp ab_hd q.2.2)) = some (n, rc, sp) → ex_cok l RX9 1 21 ix n rc sp := by
  intro ix n rc sp h
  obtain ⟨l0, h2, rfl⟩ := ab_dmk h
  clear h
  unfold be_X9_undock at h2
  split at h2
  · cases h2; exact ec_cS (bm_X9_isMass l) bw_X9_isMass bv_X9_isMass (by decide) (by decide) (Or.inl ba_X9_undock.2.2.2.2.1) bp_X9_isMass
  · cases h2; exact ec_cV (bm_X9_counted l) bw_X9_counted bv_X9_counted (by decide) (by decide) (Or.inl ba_X9_undock.2.2.2.2.2.1) (T := TX9) (N := 10) rfl (by decide) bp_X9_counted
  · cases h2
theorem bj_X9_undock (l : Launch) : ex_ok l 1 21 bx_X9_undock := ec_okp fo_X9 co_X9 so_X9 (bk_X9_undock l)
theorem bm_X9_undock (l : Launch) : ex_Met l yX9_undock cX9_undock 2 (some .int) 1 21 (ab_sp ab_hd bc_X9_undock) := ab_met (by decide) pn_RX9 rfl (bj_X9_undock l) bd_X9_undock ab_hcm ab_xk bz_X9_undock
theorem ba_X9_tell : ec_al [(1080, Cond.code yX9_tell cX9_tell 2 (some .int)), (58, Cond.initialized yX9_tell.cls), (1078, Cond.instanceMethod yX9_tell), (1079, Cond.selects yX9_tell.cls yX9_tell yX9_tell), (424, Cond.methodLink RX9 64 yX9_counted)] := ec_alk (by decide +kernel)
theorem bw_X9_tell : ec_cw yX9_tell cX9_tell 2 (some .int) := ⟨ba_X9_tell.1, ba_X9_tell.2.1, nc_RX9⟩
theorem bv_X9_tell : Cond.instanceMethod yX9_tell ∈ ec_tb ∧ Cond.selects yX9_tell.cls yX9_tell yX9_tell ∈ ec_tb := ⟨ba_X9_tell.2.2.1, ba_X9_tell.2.2.2.1⟩
theorem bp_X9_tell : (parseMethodDescriptor yX9_tell.desc).map (fun d => d.parameters.length) = some 1 := by decide +kernel
theorem bk_X9_tell (l : Launch) : ∀ (ix n : Nat) (rc : Option Nat) (sp : ex_S), (be_X9_tell ix).map (fun q => (q.1, q.2.1, ab_sp ab_hd q.2.2)) = some (n, rc, sp) → ex_cok l RX9 1 21 ix n rc sp := by
  intro ix n rc sp h
  obtain ⟨l0, h2, rfl⟩ := ab_dmk h
  clear h
  unfold be_X9_tell at h2
  split at h2
  · cases h2; exact ec_cV (bm_X9_counted l) bw_X9_counted bv_X9_counted (by decide) (by decide) (Or.inl ba_X9_tell.2.2.2.2.1) (T := TX9) (N := 10) rfl (by decide) bp_X9_counted
  · cases h2
theorem bj_X9_tell (l : Launch) : ex_ok l 1 21 bx_X9_tell := ec_okp fo_X9 co_X9 so_X9 (bk_X9_tell l)
theorem bm_X9_tell (l : Launch) : ex_Met l yX9_tell cX9_tell 2 (some .int) 1 21 (ab_sp ab_hd bc_X9_tell) := ab_met (by decide) pn_RX9 rfl (bj_X9_tell l) bd_X9_tell ab_hcm ab_xk bz_X9_tell
theorem ba_X9_check : ec_al [(1084, Cond.code yX9_check cX9_check 5 (some .int)), (58, Cond.initialized yX9_check.cls), (1082, Cond.instanceMethod yX9_check), (1083, Cond.selects yX9_check.cls yX9_check yX9_check), (502, Cond.methodLink RX9 88 yX0_hasModule), (1085, Cond.methodLink RX9 248 yX0_isSort), (424, Cond.methodLink RX9 64 yX9_counted), (864, Cond.methodLink RX9 163 yX8_becomeLike), (698, Cond.methodLink RX9 156 yX8_passTick), (1086, Cond.methodLink RX9 251 yX0_amount)] := ec_alk (by decide +kernel)
theorem bw_X9_check : ec_cw yX9_check cX9_check 5 (some .int) := ⟨ba_X9_check.1, ba_X9_check.2.1, nc_RX9⟩
theorem bv_X9_check : Cond.instanceMethod yX9_check ∈ ec_tb ∧ Cond.selects yX9_check.cls yX9_check yX9_check ∈ ec_tb := ⟨ba_X9_check.2.2.1, ba_X9_check.2.2.2.1⟩
theorem bp_X9_check : (parseMethodDescriptor yX9_check.desc).map (fun d => d.parameters.length) = some 2 := by decide +kernel
theorem bk_X9_check (l : Launch) : ∀ (ix n : Nat) (rc : Option Nat) (sp : ex_S), (be_X9_check ix).map (fun q => (q.1, q.2.1, ab_sp ab_hd q.2.2)) = some (n, rc, sp) → ex_cok l RX9 6 134 ix n rc sp := by
  intro ix n rc sp h
  obtain ⟨l0, h2, rfl⟩ := ab_dmk h
  clear h
  unfold be_X9_check at h2
  split at h2
  · cases h2; exact ec_cV (bm_X0_hasModule l) bw_X0_hasModule bv_X0_hasModule (by decide) (by decide) (Or.inl ba_X9_check.2.2.2.2.1) (T := TX0) (N := 8) rfl (by decide) bp_X0_hasModule
  · cases h2; exact ec_cS (bm_X0_isSort l) bw_X0_isSort bv_X0_isSort (by decide) (by decide) (Or.inl ba_X9_check.2.2.2.2.2.1) bp_X0_isSort
  · cases h2; exact ec_cV (bm_X9_counted l) bw_X9_counted bv_X9_counted (by decide) (by decide) (Or.inl ba_X9_check.2.2.2.2.2.2.1) (T := TX9) (N := 10) rfl (by decide) bp_X9_counted
  · cases h2; exact ec_cV (bm_X8_becomeLike l) bw_X8_becomeLike bv_X8_becomeLike (by decide) (by decide) (Or.inl ba_X9_check.2.2.2.2.2.2.2.1) (T := TX8) (N := 7) rfl (by decide) bp_X8_becomeLike
  · cases h2; exact ec_cV (bm_X8_passTick l) bw_X8_passTick bv_X8_passTick (by decide) (by decide) (Or.inl ba_X9_check.2.2.2.2.2.2.2.2.1) (T := TX8) (N := 7) rfl (by decide) bp_X8_passTick
  · cases h2; exact ec_cV (bm_X0_amount l) bw_X0_amount bv_X0_amount (by decide) (by decide) (Or.inl ba_X9_check.2.2.2.2.2.2.2.2.2.1) (T := TX0) (N := 8) rfl (by decide) bp_X0_amount
  · cases h2
theorem bj_X9_check (l : Launch) : ex_ok l 6 134 bx_X9_check := ec_okp fo_X9 co_X9 so_X9 (bk_X9_check l)
theorem bm_X9_check (l : Launch) : ex_Met l yX9_check cX9_check 5 (some .int) 6 134 (ab_sp ab_hd bc_X9_check) := ab_met (by decide) pn_RX9 rfl (bj_X9_check l) bd_X9_check ab_hcm ab_xk bz_X9_check
theorem ba_X9_count : ec_al [(1090, Cond.code yX9_count cX9_count 2 (some .int)), (58, Cond.initialized yX9_count.cls), (1088, Cond.instanceMethod yX9_count), (1089, Cond.selects yX9_count.cls yX9_count yX9_count), (1091, Cond.methodLink RX9 272 yX3_menders), (424, Cond.methodLink RX9 64 yX9_counted)] := ec_alk (by decide +kernel)
theorem bw_X9_count : ec_cw yX9_count cX9_count 2 (some .int) := ⟨ba_X9_count.1, ba_X9_count.2.1, nc_RX9⟩
theorem bv_X9_count : Cond.instanceMethod yX9_count ∈ ec_tb ∧ Cond.selects yX9_count.cls yX9_count yX9_count ∈ ec_tb := ⟨ba_X9_count.2.2.1, ba_X9_count.2.2.2.1⟩
theorem bp_X9_count : (parseMethodDescriptor yX9_count.desc).map (fun d => d.parameters.length) = some 1 := by decide +kernel
theorem bk_X9_count (l : Launch) : ∀ (ix n : Nat) (rc : Option Nat) (sp : ex_S), (be_X9_count ix).map (fun q => (q.1, q.2.1, ab_sp ab_hd q.2.2)) = some (n, rc, sp) → ex_cok l RX9 2 43 ix n rc sp := by
  intro ix n rc sp h
  obtain ⟨l0, h2, rfl⟩ := ab_dmk h
  clear h
  unfold be_X9_count at h2
  split at h2
  · cases h2; exact ec_cV (bm_X3_menders l) bw_X3_menders bv_X3_menders (by decide) (by decide) (Or.inl ba_X9_count.2.2.2.2.1) (T := TX3) (N := 7) rfl (by decide) bp_X3_menders
  · cases h2; exact ec_cV (bm_X9_counted l) bw_X9_counted bv_X9_counted (by decide) (by decide) (Or.inl ba_X9_count.2.2.2.2.2.1) (T := TX9) (N := 10) rfl (by decide) bp_X9_counted
  · cases h2
theorem bj_X9_count (l : Launch) : ex_ok l 2 43 bx_X9_count := ec_okp fo_X9 co_X9 so_X9 (bk_X9_count l)
theorem bm_X9_count (l : Launch) : ex_Met l yX9_count cX9_count 2 (some .int) 2 43 (ab_sp ab_hd bc_X9_count) := ab_met (by decide) pn_RX9 rfl (bj_X9_count l) bd_X9_count ab_hcm ab_xk bz_X9_count
theorem ba_X9_found : ec_al [(1098, Cond.code yX9_found cX9_found 2 (some .int)), (58, Cond.initialized yX9_found.cls), (1096, Cond.instanceMethod yX9_found), (1097, Cond.selects yX9_found.cls yX9_found yX9_found), (424, Cond.methodLink RX9 64 yX9_counted)] := ec_alk (by decide +kernel)
theorem bw_X9_found : ec_cw yX9_found cX9_found 2 (some .int) := ⟨ba_X9_found.1, ba_X9_found.2.1, nc_RX9⟩
theorem bv_X9_found : Cond.instanceMethod yX9_found ∈ ec_tb ∧ Cond.selects yX9_found.cls yX9_found yX9_found ∈ ec_tb := ⟨ba_X9_found.2.2.1, ba_X9_found.2.2.2.1⟩
theorem bp_X9_found : (parseMethodDescriptor yX9_found.desc).map (fun d => d.parameters.length) = some 1 := by decide +kernel
theorem bk_X9_found (l : Launch) : ∀ (ix n : Nat) (rc : Option Nat) (sp : ex_S), (be_X9_found ix).map (fun q => (q.1, q.2.1, ab_sp ab_hd q.2.2)) = some (n, rc, sp) → ex_cok l RX9 1 21 ix n rc sp := by
  intro ix n rc sp h
  obtain ⟨l0, h2, rfl⟩ := ab_dmk h
  clear h
  unfold be_X9_found at h2
  split at h2
  · cases h2; exact ec_cV (bm_X9_counted l) bw_X9_counted bv_X9_counted (by decide) (by decide) (Or.inl ba_X9_found.2.2.2.2.1) (T := TX9) (N := 10) rfl (by decide) bp_X9_counted
  · cases h2
theorem bj_X9_found (l : Launch) : ex_ok l 1 21 bx_X9_found := ec_okp fo_X9 co_X9 so_X9 (bk_X9_found l)
theorem bm_X9_found (l : Launch) : ex_Met l yX9_found cX9_found 2 (some .int) 1 21 (ab_sp ab_hd bc_X9_found) := ab_met (by decide) pn_RX9 rfl (bj_X9_found l) bd_X9_found ab_hcm ab_xk bz_X9_found
theorem ba_X10_finding : ec_al [(1285, Cond.code yX10_finding cX10_finding 2 (some .int)), (68, Cond.initialized yX10_finding.cls), (1284, Cond.instanceMethod yX10_finding), (26, Cond.selects yX10_finding.cls yX10_finding yX10_finding)] := ec_alk (by decide +kernel)
theorem bw_X10_finding : ec_cw yX10_finding cX10_finding 2 (some .int) := ⟨ba_X10_finding.1, ba_X10_finding.2.1, nc_RX10⟩
theorem bv_X10_finding : Cond.instanceMethod yX10_finding ∈ ec_tb ∧ Cond.selects yX10_finding.cls yX10_finding yX10_finding ∈ ec_tb := ⟨ba_X10_finding.2.2.1, ba_X10_finding.2.2.2.1⟩
theorem bp_X10_finding : (parseMethodDescriptor yX10_finding.desc).map (fun d => d.parameters.length) = some 1 := by decide +kernel
theorem bj_X10_finding (l : Launch) : ex_ok l 0 0 bx_X10_finding := ec_okp fo_X10 co_X10 so_X10 (ec_okn)
theorem bm_X10_finding (l : Launch) : ex_Met l yX10_finding cX10_finding 2 (some .int) 0 0 (ab_sp ab_hd bc_X10_finding) := ab_met (by decide) pn_RX10 rfl (bj_X10_finding l) bd_X10_finding ab_hcm ab_xk bz_X10_finding
theorem ba_X10_isIn : ec_al [(1305, Cond.code yX10_isIn cX10_isIn 3 (some .boolean)), (68, Cond.initialized yX10_isIn.cls), (1304, Cond.static yX10_isIn)] := ec_alk (by decide +kernel)
theorem bw_X10_isIn : ec_cw yX10_isIn cX10_isIn 3 (some .boolean) := ⟨ba_X10_isIn.1, ba_X10_isIn.2.1, nc_RX10⟩
theorem bv_X10_isIn : Cond.static yX10_isIn ∈ ec_tb := ba_X10_isIn.2.2.1
theorem bp_X10_isIn : (parseMethodDescriptor yX10_isIn.desc).map (fun d => d.parameters.length) = some 3 := by decide +kernel
theorem bj_X10_isIn (l : Launch) : ex_ok l 0 0 bx_X10_isIn := ec_okp fo_X10 co_X10 so_X10 (ec_okn)
theorem bm_X10_isIn (l : Launch) : ex_Met l yX10_isIn cX10_isIn 3 (some .boolean) 0 0 (ab_sp ab_hd bc_X10_isIn) := ab_met (by decide) pn_RX10 rfl (bj_X10_isIn l) bd_X10_isIn ab_hcm ab_xk bz_X10_isIn
theorem ba_X10_isModule : ec_al [(1294, Cond.code yX10_isModule cX10_isModule 2 (some .boolean)), (68, Cond.initialized yX10_isModule.cls), (1293, Cond.instanceMethod yX10_isModule), (27, Cond.selects yX10_isModule.cls yX10_isModule yX10_isModule)] := ec_alk (by decide +kernel)
theorem bw_X10_isModule : ec_cw yX10_isModule cX10_isModule 2 (some .boolean) := ⟨ba_X10_isModule.1, ba_X10_isModule.2.1, nc_RX10⟩
theorem bv_X10_isModule : Cond.instanceMethod yX10_isModule ∈ ec_tb ∧ Cond.selects yX10_isModule.cls yX10_isModule yX10_isModule ∈ ec_tb := ⟨ba_X10_isModule.2.2.1, ba_X10_isModule.2.2.2.1⟩
theorem bp_X10_isModule : (parseMethodDescriptor yX10_isModule.desc).map (fun d => d.parameters.length) = some 1 := by decide +kernel
theorem bj_X10_isModule (l : Launch) : ex_ok l 0 0 bx_X10_isModule := ec_okp fo_X10 co_X10 so_X10 (ec_okn)
theorem bm_X10_isModule (l : Launch) : ex_Met l yX10_isModule cX10_isModule 2 (some .boolean) 0 0 (ab_sp ab_hd bc_X10_isModule) := ab_met (by decide) pn_RX10 rfl (bj_X10_isModule l) bd_X10_isModule ab_hcm ab_xk bz_X10_isModule
theorem ba_X10_isHatch : ec_al [(1302, Cond.code yX10_isHatch cX10_isHatch 2 (some .boolean)), (68, Cond.initialized yX10_isHatch.cls), (1301, Cond.instanceMethod yX10_isHatch), (28, Cond.selects yX10_isHatch.cls yX10_isHatch yX10_isHatch)] := ec_alk (by decide +kernel)
theorem bw_X10_isHatch : ec_cw yX10_isHatch cX10_isHatch 2 (some .boolean) := ⟨ba_X10_isHatch.1, ba_X10_isHatch.2.1, nc_RX10⟩
theorem bv_X10_isHatch : Cond.instanceMethod yX10_isHatch ∈ ec_tb ∧ Cond.selects yX10_isHatch.cls yX10_isHatch yX10_isHatch ∈ ec_tb := ⟨ba_X10_isHatch.2.2.1, ba_X10_isHatch.2.2.2.1⟩
theorem bp_X10_isHatch : (parseMethodDescriptor yX10_isHatch.desc).map (fun d => d.parameters.length) = some 1 := by decide +kernel
theorem bj_X10_isHatch (l : Launch) : ex_ok l 0 0 bx_X10_isHatch := ec_okp fo_X10 co_X10 so_X10 (ec_okn)
theorem bm_X10_isHatch (l : Launch) : ex_Met l yX10_isHatch cX10_isHatch 2 (some .boolean) 0 0 (ab_sp ab_hd bc_X10_isHatch) := ab_met (by decide) pn_RX10 rfl (bj_X10_isHatch l) bd_X10_isHatch ab_hcm ab_xk bz_X10_isHatch
theorem ba_X10_isPerson : ec_al [(1335, Cond.code yX10_isPerson cX10_isPerson 2 (some .boolean)), (68, Cond.initialized yX10_isPerson.cls), (1334, Cond.instanceMethod yX10_isPerson), (29, Cond.selects yX10_isPerson.cls yX10_isPerson yX10_isPerson)] := ec_alk (by decide +kernel)
theorem bw_X10_isPerson : ec_cw yX10_isPerson cX10_isPerson 2 (some .boolean) := ⟨ba_X10_isPerson.1, ba_X10_isPerson.2.1, nc_RX10⟩
theorem bv_X10_isPerson : Cond.instanceMethod yX10_isPerson ∈ ec_tb ∧ Cond.selects yX10_isPerson.cls yX10_isPerson yX10_isPerson ∈ ec_tb := ⟨ba_X10_isPerson.2.2.1, ba_X10_isPerson.2.2.2.1⟩
theorem bp_X10_isPerson : (parseMethodDescriptor yX10_isPerson.desc).map (fun d => d.parameters.length) = some 1 := by decide +kernel
theorem bj_X10_isPerson (l : Launch) : ex_ok l 0 0 bx_X10_isPerson := ec_okp fo_X10 co_X10 so_X10 (ec_okn)
theorem bm_X10_isPerson (l : Launch) : ex_Met l yX10_isPerson cX10_isPerson 2 (some .boolean) 0 0 (ab_sp ab_hd bc_X10_isPerson) := ab_met (by decide) pn_RX10 rfl (bj_X10_isPerson l) bd_X10_isPerson ab_hcm ab_xk bz_X10_isPerson
theorem ba_X10_isMachine : ec_al [(1359, Cond.code yX10_isMachine cX10_isMachine 2 (some .boolean)), (68, Cond.initialized yX10_isMachine.cls), (1358, Cond.instanceMethod yX10_isMachine), (31, Cond.selects yX10_isMachine.cls yX10_isMachine yX10_isMachine)] := ec_alk (by decide +kernel)
theorem bw_X10_isMachine : ec_cw yX10_isMachine cX10_isMachine 2 (some .boolean) := ⟨ba_X10_isMachine.1, ba_X10_isMachine.2.1, nc_RX10⟩
theorem bv_X10_isMachine : Cond.instanceMethod yX10_isMachine ∈ ec_tb ∧ Cond.selects yX10_isMachine.cls yX10_isMachine yX10_isMachine ∈ ec_tb := ⟨ba_X10_isMachine.2.2.1, ba_X10_isMachine.2.2.2.1⟩
theorem bp_X10_isMachine : (parseMethodDescriptor yX10_isMachine.desc).map (fun d => d.parameters.length) = some 1 := by decide +kernel
theorem bj_X10_isMachine (l : Launch) : ex_ok l 0 0 bx_X10_isMachine := ec_okp fo_X10 co_X10 so_X10 (ec_okn)
theorem bm_X10_isMachine (l : Launch) : ex_Met l yX10_isMachine cX10_isMachine 2 (some .boolean) 0 0 (ab_sp ab_hd bc_X10_isMachine) := ab_met (by decide) pn_RX10 rfl (bj_X10_isMachine l) bd_X10_isMachine ab_hcm ab_xk bz_X10_isMachine
theorem ba_X10_module : ec_al [(1281, Cond.code yX10_module cX10_module 1 (some .int)), (68, Cond.initialized yX10_module.cls), (1279, Cond.instanceMethod yX10_module), (1280, Cond.selects yX10_module.cls yX10_module yX10_module), (1282, Cond.methodLink RX10 160 yX10_finding)] := ec_alk (by decide +kernel)
theorem bw_X10_module : ec_cw yX10_module cX10_module 1 (some .int) := ⟨ba_X10_module.1, ba_X10_module.2.1, nc_RX10⟩
theorem bv_X10_module : Cond.instanceMethod yX10_module ∈ ec_tb ∧ Cond.selects yX10_module.cls yX10_module yX10_module ∈ ec_tb := ⟨ba_X10_module.2.2.1, ba_X10_module.2.2.2.1⟩
theorem bp_X10_module : (parseMethodDescriptor yX10_module.desc).map (fun d => d.parameters.length) = some 0 := by decide +kernel
theorem bk_X10_module (l : Launch) : ∀ (ix n : Nat) (rc : Option Nat) (sp : ex_S), (be_X10_module ix).map (fun q => (q.1, q.2.1, ab_sp ab_hd q.2.2)) = some (n, rc, sp) → ex_cok l RX10 1 21 ix n rc sp := by
  intro ix n rc sp h
  obtain ⟨l0, h2, rfl⟩ := ab_dmk h
  clear h
  unfold be_X10_module at h2
  split at h2
  · cases h2; exact ec_cV (bm_X10_finding l) bw_X10_finding bv_X10_finding (by decide) (by decide) (Or.inl ba_X10_module.2.2.2.2.1) (T := TX10) (N := 57) rfl (by decide) bp_X10_finding
  · cases h2
theorem bj_X10_module (l : Launch) : ex_ok l 1 21 bx_X10_module := ec_okp fo_X10 co_X10 so_X10 (bk_X10_module l)
theorem bm_X10_module (l : Launch) : ex_Met l yX10_module cX10_module 1 (some .int) 1 21 (ab_sp ab_hd bc_X10_module) := ab_met (by decide) pn_RX10 rfl (bj_X10_module l) bd_X10_module ab_hcm ab_xk bz_X10_module
theorem ba_X10_hatch : ec_al [(1290, Cond.code yX10_hatch cX10_hatch 3 (some .int)), (68, Cond.initialized yX10_hatch.cls), (1288, Cond.instanceMethod yX10_hatch), (1289, Cond.selects yX10_hatch.cls yX10_hatch yX10_hatch), (1291, Cond.methodLink RX10 164 yX10_isModule), (1282, Cond.methodLink RX10 160 yX10_finding)] := ec_alk (by decide +kernel)
theorem bw_X10_hatch : ec_cw yX10_hatch cX10_hatch 3 (some .int) := ⟨ba_X10_hatch.1, ba_X10_hatch.2.1, nc_RX10⟩
theorem bv_X10_hatch : Cond.instanceMethod yX10_hatch ∈ ec_tb ∧ Cond.selects yX10_hatch.cls yX10_hatch yX10_hatch ∈ ec_tb := ⟨ba_X10_hatch.2.2.1, ba_X10_hatch.2.2.2.1⟩
theorem bp_X10_hatch : (parseMethodDescriptor yX10_hatch.desc).map (fun d => d.parameters.length) = some 2 := by decide +kernel
theorem bk_X10_hatch (l : Launch) : ∀ (ix n : Nat) (rc : Option Nat) (sp : ex_S), (be_X10_hatch ix).map (fun q => (q.1, q.2.1, ab_sp ab_hd q.2.2)) = some (n, rc, sp) → ex_cok l RX10 1 21 ix n rc sp := by
  intro ix n rc sp h
  obtain ⟨l0, h2, rfl⟩ := ab_dmk h
  clear h
  unfold be_X10_hatch at h2
  split at h2
  · cases h2; exact ec_cV (bm_X10_isModule l) bw_X10_isModule bv_X10_isModule (by decide) (by decide) (Or.inl ba_X10_hatch.2.2.2.2.1) (T := TX10) (N := 57) rfl (by decide) bp_X10_isModule
  · cases h2; exact ec_cV (bm_X10_finding l) bw_X10_finding bv_X10_finding (by decide) (by decide) (Or.inl ba_X10_hatch.2.2.2.2.2.1) (T := TX10) (N := 57) rfl (by decide) bp_X10_finding
  · cases h2
theorem bj_X10_hatch (l : Launch) : ex_ok l 1 21 bx_X10_hatch := ec_okp fo_X10 co_X10 so_X10 (bk_X10_hatch l)
theorem bm_X10_hatch (l : Launch) : ex_Met l yX10_hatch cX10_hatch 3 (some .int) 1 21 (ab_sp ab_hd bc_X10_hatch) := ab_met (by decide) pn_RX10 rfl (bj_X10_hatch l) bd_X10_hatch ab_hcm ab_xk bz_X10_hatch
theorem ba_X10_shut : ec_al [(1298, Cond.code yX10_shut cX10_shut 4 (some .int)), (68, Cond.initialized yX10_shut.cls), (1296, Cond.instanceMethod yX10_shut), (1297, Cond.selects yX10_shut.cls yX10_shut yX10_shut), (1299, Cond.methodLink RX10 168 yX10_isHatch), (1303, Cond.methodLink RX10 171 yX10_isIn), (1282, Cond.methodLink RX10 160 yX10_finding)] := ec_alk (by decide +kernel)
theorem bw_X10_shut : ec_cw yX10_shut cX10_shut 4 (some .int) := ⟨ba_X10_shut.1, ba_X10_shut.2.1, nc_RX10⟩
theorem bv_X10_shut : Cond.instanceMethod yX10_shut ∈ ec_tb ∧ Cond.selects yX10_shut.cls yX10_shut yX10_shut ∈ ec_tb := ⟨ba_X10_shut.2.2.1, ba_X10_shut.2.2.2.1⟩
theorem bp_X10_shut : (parseMethodDescriptor yX10_shut.desc).map (fun d => d.parameters.length) = some 2 := by decide +kernel
theorem bk_X10_shut (l : Launch) : ∀ (ix n : Nat) (rc : Option Nat) (sp : ex_S), (be_X10_shut ix).map (fun q => (q.1, q.2.1, ab_sp ab_hd q.2.2)) = some (n, rc, sp) → ex_cok l RX10 1 22 ix n rc sp := by
  intro ix n rc sp h
  obtain ⟨l0, h2, rfl⟩ := ab_dmk h
  clear h
  unfold be_X10_shut at h2
  split at h2
  · cases h2; exact ec_cV (bm_X10_isHatch l) bw_X10_isHatch bv_X10_isHatch (by decide) (by decide) (Or.inl ba_X10_shut.2.2.2.2.1) (T := TX10) (N := 57) rfl (by decide) bp_X10_isHatch
  · cases h2; exact ec_cS (bm_X10_isIn l) bw_X10_isIn bv_X10_isIn (by decide) (by decide) (Or.inl ba_X10_shut.2.2.2.2.2.1) bp_X10_isIn
  · cases h2; exact ec_cV (bm_X10_finding l) bw_X10_finding bv_X10_finding (by decide) (by decide) (Or.inl ba_X10_shut.2.2.2.2.2.2.1) (T := TX10) (N := 57) rfl (by decide) bp_X10_finding
  · cases h2
theorem bj_X10_shut (l : Launch) : ex_ok l 1 22 bx_X10_shut := ec_okp fo_X10 co_X10 so_X10 (bk_X10_shut l)
theorem bm_X10_shut (l : Launch) : ex_Met l yX10_shut cX10_shut 4 (some .int) 1 22 (ab_sp ab_hd bc_X10_shut) := ab_met (by decide) pn_RX10 rfl (bj_X10_shut l) bd_X10_shut ab_hcm ab_xk bz_X10_shut
theorem ba_X10_gas : ec_al [(1309, Cond.code yX10_gas cX10_gas 5 (some .int)), (68, Cond.initialized yX10_gas.cls), (1307, Cond.instanceMethod yX10_gas), (1308, Cond.selects yX10_gas.cls yX10_gas yX10_gas), (1291, Cond.methodLink RX10 164 yX10_isModule), (1303, Cond.methodLink RX10 171 yX10_isIn), (1282, Cond.methodLink RX10 160 yX10_finding)] := ec_alk (by decide +kernel)
theorem bw_X10_gas : ec_cw yX10_gas cX10_gas 5 (some .int) := ⟨ba_X10_gas.1, ba_X10_gas.2.1, nc_RX10⟩
theorem bv_X10_gas : Cond.instanceMethod yX10_gas ∈ ec_tb ∧ Cond.selects yX10_gas.cls yX10_gas yX10_gas ∈ ec_tb := ⟨ba_X10_gas.2.2.1, ba_X10_gas.2.2.2.1⟩
theorem bp_X10_gas : (parseMethodDescriptor yX10_gas.desc).map (fun d => d.parameters.length) = some 3 := by decide +kernel
theorem bk_X10_gas (l : Launch) : ∀ (ix n : Nat) (rc : Option Nat) (sp : ex_S), (be_X10_gas ix).map (fun q => (q.1, q.2.1, ab_sp ab_hd q.2.2)) = some (n, rc, sp) → ex_cok l RX10 1 22 ix n rc sp := by
  intro ix n rc sp h
  obtain ⟨l0, h2, rfl⟩ := ab_dmk h
  clear h
  unfold be_X10_gas at h2
  split at h2
  · cases h2; exact ec_cV (bm_X10_isModule l) bw_X10_isModule bv_X10_isModule (by decide) (by decide) (Or.inl ba_X10_gas.2.2.2.2.1) (T := TX10) (N := 57) rfl (by decide) bp_X10_isModule
  · cases h2; exact ec_cS (bm_X10_isIn l) bw_X10_isIn bv_X10_isIn (by decide) (by decide) (Or.inl ba_X10_gas.2.2.2.2.2.1) bp_X10_isIn
  · cases h2; exact ec_cV (bm_X10_finding l) bw_X10_finding bv_X10_finding (by decide) (by decide) (Or.inl ba_X10_gas.2.2.2.2.2.2.1) (T := TX10) (N := 57) rfl (by decide) bp_X10_finding
  · cases h2
theorem bj_X10_gas (l : Launch) : ex_ok l 1 22 bx_X10_gas := ec_okp fo_X10 co_X10 so_X10 (bk_X10_gas l)
theorem bm_X10_gas (l : Launch) : ex_Met l yX10_gas cX10_gas 5 (some .int) 1 22 (ab_sp ab_hd bc_X10_gas) := ab_met (by decide) pn_RX10 rfl (bj_X10_gas l) bd_X10_gas ab_hcm ab_xk bz_X10_gas
theorem ba_X10_leak : ec_al [(1314, Cond.code yX10_leak cX10_leak 4 (some .int)), (68, Cond.initialized yX10_leak.cls), (1312, Cond.instanceMethod yX10_leak), (1313, Cond.selects yX10_leak.cls yX10_leak yX10_leak), (1291, Cond.methodLink RX10 164 yX10_isModule), (1303, Cond.methodLink RX10 171 yX10_isIn), (1282, Cond.methodLink RX10 160 yX10_finding)] := ec_alk (by decide +kernel)
theorem bw_X10_leak : ec_cw yX10_leak cX10_leak 4 (some .int) := ⟨ba_X10_leak.1, ba_X10_leak.2.1, nc_RX10⟩
theorem bv_X10_leak : Cond.instanceMethod yX10_leak ∈ ec_tb ∧ Cond.selects yX10_leak.cls yX10_leak yX10_leak ∈ ec_tb := ⟨ba_X10_leak.2.2.1, ba_X10_leak.2.2.2.1⟩
theorem bp_X10_leak : (parseMethodDescriptor yX10_leak.desc).map (fun d => d.parameters.length) = some 2 := by decide +kernel
theorem bk_X10_leak (l : Launch) : ∀ (ix n : Nat) (rc : Option Nat) (sp : ex_S), (be_X10_leak ix).map (fun q => (q.1, q.2.1, ab_sp ab_hd q.2.2)) = some (n, rc, sp) → ex_cok l RX10 1 22 ix n rc sp := by
  intro ix n rc sp h
  obtain ⟨l0, h2, rfl⟩ := ab_dmk h
  clear h
  unfold be_X10_leak at h2
  split at h2
  · cases h2; exact ec_cV (bm_X10_isModule l) bw_X10_isModule bv_X10_isModule (by decide) (by decide) (Or.inl ba_X10_leak.2.2.2.2.1) (T := TX10) (N := 57) rfl (by decide) bp_X10_isModule
  · cases h2; exact ec_cS (bm_X10_isIn l) bw_X10_isIn bv_X10_isIn (by decide) (by decide) (Or.inl ba_X10_leak.2.2.2.2.2.1) bp_X10_isIn
  · cases h2; exact ec_cV (bm_X10_finding l) bw_X10_finding bv_X10_finding (by decide) (by decide) (Or.inl ba_X10_leak.2.2.2.2.2.2.1) (T := TX10) (N := 57) rfl (by decide) bp_X10_finding
  · cases h2
theorem bj_X10_leak (l : Launch) : ex_ok l 1 22 bx_X10_leak := ec_okp fo_X10 co_X10 so_X10 (bk_X10_leak l)
theorem bm_X10_leak (l : Launch) : ex_Met l yX10_leak cX10_leak 4 (some .int) 1 22 (ab_sp ab_hd bc_X10_leak) := ab_met (by decide) pn_RX10 rfl (bj_X10_leak l) bd_X10_leak ab_hcm ab_xk bz_X10_leak
theorem ba_X10_tank : ec_al [(1318, Cond.code yX10_tank cX10_tank 4 (some .int)), (68, Cond.initialized yX10_tank.cls), (1316, Cond.instanceMethod yX10_tank), (1317, Cond.selects yX10_tank.cls yX10_tank yX10_tank), (1303, Cond.methodLink RX10 171 yX10_isIn), (1282, Cond.methodLink RX10 160 yX10_finding)] := ec_alk (by decide +kernel)
theorem bw_X10_tank : ec_cw yX10_tank cX10_tank 4 (some .int) := ⟨ba_X10_tank.1, ba_X10_tank.2.1, nc_RX10⟩
theorem bv_X10_tank : Cond.instanceMethod yX10_tank ∈ ec_tb ∧ Cond.selects yX10_tank.cls yX10_tank yX10_tank ∈ ec_tb := ⟨ba_X10_tank.2.2.1, ba_X10_tank.2.2.2.1⟩
theorem bp_X10_tank : (parseMethodDescriptor yX10_tank.desc).map (fun d => d.parameters.length) = some 2 := by decide +kernel
theorem bk_X10_tank (l : Launch) : ∀ (ix n : Nat) (rc : Option Nat) (sp : ex_S), (be_X10_tank ix).map (fun q => (q.1, q.2.1, ab_sp ab_hd q.2.2)) = some (n, rc, sp) → ex_cok l RX10 1 22 ix n rc sp := by
  intro ix n rc sp h
  obtain ⟨l0, h2, rfl⟩ := ab_dmk h
  clear h
  unfold be_X10_tank at h2
  split at h2
  · cases h2; exact ec_cS (bm_X10_isIn l) bw_X10_isIn bv_X10_isIn (by decide) (by decide) (Or.inl ba_X10_tank.2.2.2.2.1) bp_X10_isIn
  · cases h2; exact ec_cV (bm_X10_finding l) bw_X10_finding bv_X10_finding (by decide) (by decide) (Or.inl ba_X10_tank.2.2.2.2.2.1) (T := TX10) (N := 57) rfl (by decide) bp_X10_finding
  · cases h2
theorem bj_X10_tank (l : Launch) : ex_ok l 1 22 bx_X10_tank := ec_okp fo_X10 co_X10 so_X10 (bk_X10_tank l)
theorem bm_X10_tank (l : Launch) : ex_Met l yX10_tank cX10_tank 4 (some .int) 1 22 (ab_sp ab_hd bc_X10_tank) := ab_met (by decide) pn_RX10 rfl (bj_X10_tank l) bd_X10_tank ab_hcm ab_xk bz_X10_tank
theorem ba_X10_grams : ec_al [(1323, Cond.code yX10_grams cX10_grams 3 (some .int)), (68, Cond.initialized yX10_grams.cls), (1321, Cond.instanceMethod yX10_grams), (1322, Cond.selects yX10_grams.cls yX10_grams yX10_grams)] := ec_alk (by decide +kernel)
theorem bw_X10_grams : ec_cw yX10_grams cX10_grams 3 (some .int) := ⟨ba_X10_grams.1, ba_X10_grams.2.1, nc_RX10⟩
theorem bv_X10_grams : Cond.instanceMethod yX10_grams ∈ ec_tb ∧ Cond.selects yX10_grams.cls yX10_grams yX10_grams ∈ ec_tb := ⟨ba_X10_grams.2.2.1, ba_X10_grams.2.2.2.1⟩
theorem bp_X10_grams : (parseMethodDescriptor yX10_grams.desc).map (fun d => d.parameters.length) = some 0 := by decide +kernel
theorem bj_X10_grams (l : Launch) : ex_ok l 0 0 bx_X10_grams := ec_okp fo_X10 co_X10 so_X10 (ec_okn)
theorem bm_X10_grams (l : Launch) : ex_Met l yX10_grams cX10_grams 3 (some .int) 0 0 (ab_sp ab_hd bc_X10_grams) := ab_met (by decide) pn_RX10 rfl (bj_X10_grams l) bd_X10_grams ab_hcm ab_xk bz_X10_grams
theorem ba_X10_person : ec_al [(1327, Cond.code yX10_person cX10_person 2 (some .int)), (68, Cond.initialized yX10_person.cls), (1325, Cond.instanceMethod yX10_person), (1326, Cond.selects yX10_person.cls yX10_person yX10_person), (1291, Cond.methodLink RX10 164 yX10_isModule), (1282, Cond.methodLink RX10 160 yX10_finding)] := ec_alk (by decide +kernel)
theorem bw_X10_person : ec_cw yX10_person cX10_person 2 (some .int) := ⟨ba_X10_person.1, ba_X10_person.2.1, nc_RX10⟩
theorem bv_X10_person : Cond.instanceMethod yX10_person ∈ ec_tb ∧ Cond.selects yX10_person.cls yX10_person yX10_person ∈ ec_tb := ⟨ba_X10_person.2.2.1, ba_X10_person.2.2.2.1⟩
theorem bp_X10_person : (parseMethodDescriptor yX10_person.desc).map (fun d => d.parameters.length) = some 1 := by decide +kernel
theorem bk_X10_person (l : Launch) : ∀ (ix n : Nat) (rc : Option Nat) (sp : ex_S), (be_X10_person ix).map (fun q => (q.1, q.2.1, ab_sp ab_hd q.2.2)) = some (n, rc, sp) → ex_cok l RX10 1 21 ix n rc sp := by
  intro ix n rc sp h
  obtain ⟨l0, h2, rfl⟩ := ab_dmk h
  clear h
  unfold be_X10_person at h2
  split at h2
  · cases h2; exact ec_cV (bm_X10_isModule l) bw_X10_isModule bv_X10_isModule (by decide) (by decide) (Or.inl ba_X10_person.2.2.2.2.1) (T := TX10) (N := 57) rfl (by decide) bp_X10_isModule
  · cases h2; exact ec_cV (bm_X10_finding l) bw_X10_finding bv_X10_finding (by decide) (by decide) (Or.inl ba_X10_person.2.2.2.2.2.1) (T := TX10) (N := 57) rfl (by decide) bp_X10_finding
  · cases h2
theorem bj_X10_person (l : Launch) : ex_ok l 1 21 bx_X10_person := ec_okp fo_X10 co_X10 so_X10 (bk_X10_person l)
theorem bm_X10_person (l : Launch) : ex_Met l yX10_person cX10_person 2 (some .int) 1 21 (ab_sp ab_hd bc_X10_person) := ab_met (by decide) pn_RX10 rfl (bj_X10_person l) bd_X10_person ab_hcm ab_xk bz_X10_person
theorem ba_X10_canGo : ec_al [(1339, Cond.code yX10_canGo cX10_canGo 5 (some .boolean)), (68, Cond.initialized yX10_canGo.cls), (1338, Cond.instanceMethod yX10_canGo), (30, Cond.selects yX10_canGo.cls yX10_canGo yX10_canGo)] := ec_alk (by decide +kernel)
theorem bw_X10_canGo : ec_cw yX10_canGo cX10_canGo 5 (some .boolean) := ⟨ba_X10_canGo.1, ba_X10_canGo.2.1, nc_RX10⟩
theorem bv_X10_canGo : Cond.instanceMethod yX10_canGo ∈ ec_tb ∧ Cond.selects yX10_canGo.cls yX10_canGo yX10_canGo ∈ ec_tb := ⟨ba_X10_canGo.2.2.1, ba_X10_canGo.2.2.2.1⟩
theorem bp_X10_canGo : (parseMethodDescriptor yX10_canGo.desc).map (fun d => d.parameters.length) = some 2 := by decide +kernel
theorem bj_X10_canGo (l : Launch) : ex_ok l 0 0 bx_X10_canGo := ec_okp fo_X10 co_X10 so_X10 (ec_okn)
theorem bm_X10_canGo (l : Launch) : ex_Met l yX10_canGo cX10_canGo 5 (some .boolean) 0 0 (ab_sp ab_hd bc_X10_canGo) := ab_met (by decide) pn_RX10 rfl (bj_X10_canGo l) bd_X10_canGo ab_hcm ab_xk bz_X10_canGo
theorem ba_X10_go : ec_al [(1331, Cond.code yX10_go cX10_go 3 (some .int)), (68, Cond.initialized yX10_go.cls), (1329, Cond.instanceMethod yX10_go), (1330, Cond.selects yX10_go.cls yX10_go yX10_go), (1332, Cond.methodLink RX10 177 yX10_isPerson), (1291, Cond.methodLink RX10 164 yX10_isModule), (1282, Cond.methodLink RX10 160 yX10_finding), (1336, Cond.methodLink RX10 180 yX10_canGo)] := ec_alk (by decide +kernel)
theorem bw_X10_go : ec_cw yX10_go cX10_go 3 (some .int) := ⟨ba_X10_go.1, ba_X10_go.2.1, nc_RX10⟩
theorem bv_X10_go : Cond.instanceMethod yX10_go ∈ ec_tb ∧ Cond.selects yX10_go.cls yX10_go yX10_go ∈ ec_tb := ⟨ba_X10_go.2.2.1, ba_X10_go.2.2.2.1⟩
theorem bp_X10_go : (parseMethodDescriptor yX10_go.desc).map (fun d => d.parameters.length) = some 2 := by decide +kernel
theorem bk_X10_go (l : Launch) : ∀ (ix n : Nat) (rc : Option Nat) (sp : ex_S), (be_X10_go ix).map (fun q => (q.1, q.2.1, ab_sp ab_hd q.2.2)) = some (n, rc, sp) → ex_cok l RX10 1 24 ix n rc sp := by
  intro ix n rc sp h
  obtain ⟨l0, h2, rfl⟩ := ab_dmk h
  clear h
  unfold be_X10_go at h2
  split at h2
  · cases h2; exact ec_cV (bm_X10_isPerson l) bw_X10_isPerson bv_X10_isPerson (by decide) (by decide) (Or.inl ba_X10_go.2.2.2.2.1) (T := TX10) (N := 57) rfl (by decide) bp_X10_isPerson
  · cases h2; exact ec_cV (bm_X10_isModule l) bw_X10_isModule bv_X10_isModule (by decide) (by decide) (Or.inl ba_X10_go.2.2.2.2.2.1) (T := TX10) (N := 57) rfl (by decide) bp_X10_isModule
  · cases h2; exact ec_cV (bm_X10_finding l) bw_X10_finding bv_X10_finding (by decide) (by decide) (Or.inl ba_X10_go.2.2.2.2.2.2.1) (T := TX10) (N := 57) rfl (by decide) bp_X10_finding
  · cases h2; exact ec_cV (bm_X10_canGo l) bw_X10_canGo bv_X10_canGo (by decide) (by decide) (Or.inl ba_X10_go.2.2.2.2.2.2.2.1) (T := TX10) (N := 57) rfl (by decide) bp_X10_canGo
  · cases h2
theorem bj_X10_go (l : Launch) : ex_ok l 1 24 bx_X10_go := ec_okp fo_X10 co_X10 so_X10 (bk_X10_go l)
theorem bm_X10_go (l : Launch) : ex_Met l yX10_go cX10_go 3 (some .int) 1 24 (ab_sp ab_hd bc_X10_go) := ab_met (by decide) pn_RX10 rfl (bj_X10_go l) bd_X10_go ab_hcm ab_xk bz_X10_go
theorem ba_X10_doing : ec_al [(1343, Cond.code yX10_doing cX10_doing 4 (some .int)), (68, Cond.initialized yX10_doing.cls), (1341, Cond.instanceMethod yX10_doing), (1342, Cond.selects yX10_doing.cls yX10_doing yX10_doing), (1332, Cond.methodLink RX10 177 yX10_isPerson), (1303, Cond.methodLink RX10 171 yX10_isIn), (1282, Cond.methodLink RX10 160 yX10_finding)] := ec_alk (by decide +kernel)
theorem bw_X10_doing : ec_cw yX10_doing cX10_doing 4 (some .int) := ⟨ba_X10_doing.1, ba_X10_doing.2.1, nc_RX10⟩
theorem bv_X10_doing : Cond.instanceMethod yX10_doing ∈ ec_tb ∧ Cond.selects yX10_doing.cls yX10_doing yX10_doing ∈ ec_tb := ⟨ba_X10_doing.2.2.1, ba_X10_doing.2.2.2.1⟩
theorem bp_X10_doing : (parseMethodDescriptor yX10_doing.desc).map (fun d => d.parameters.length) = some 2 := by decide +kernel
theorem bk_X10_doing (l : Launch) : ∀ (ix n : Nat) (rc : Option Nat) (sp : ex_S), (be_X10_doing ix).map (fun q => (q.1, q.2.1, ab_sp ab_hd q.2.2)) = some (n, rc, sp) → ex_cok l RX10 1 22 ix n rc sp := by
  intro ix n rc sp h
  obtain ⟨l0, h2, rfl⟩ := ab_dmk h
  clear h
  unfold be_X10_doing at h2
  split at h2
  · cases h2; exact ec_cV (bm_X10_isPerson l) bw_X10_isPerson bv_X10_isPerson (by decide) (by decide) (Or.inl ba_X10_doing.2.2.2.2.1) (T := TX10) (N := 57) rfl (by decide) bp_X10_isPerson
  · cases h2; exact ec_cS (bm_X10_isIn l) bw_X10_isIn bv_X10_isIn (by decide) (by decide) (Or.inl ba_X10_doing.2.2.2.2.2.1) bp_X10_isIn
  · cases h2; exact ec_cV (bm_X10_finding l) bw_X10_finding bv_X10_finding (by decide) (by decide) (Or.inl ba_X10_doing.2.2.2.2.2.2.1) (T := TX10) (N := 57) rfl (by decide) bp_X10_finding
  · cases h2
theorem bj_X10_doing (l : Launch) : ex_ok l 1 22 bx_X10_doing := ec_okp fo_X10 co_X10 so_X10 (bk_X10_doing l)
theorem bm_X10_doing (l : Launch) : ex_Met l yX10_doing cX10_doing 4 (some .int) 1 22 (ab_sp ab_hd bc_X10_doing) := ab_met (by decide) pn_RX10 rfl (bj_X10_doing l) bd_X10_doing ab_hcm ab_xk bz_X10_doing
theorem ba_X10_about : ec_al [(1347, Cond.code yX10_about cX10_about 3 (some .int)), (68, Cond.initialized yX10_about.cls), (1345, Cond.instanceMethod yX10_about), (1346, Cond.selects yX10_about.cls yX10_about yX10_about), (1332, Cond.methodLink RX10 177 yX10_isPerson), (1303, Cond.methodLink RX10 171 yX10_isIn), (1282, Cond.methodLink RX10 160 yX10_finding)] := ec_alk (by decide +kernel)
theorem bw_X10_about : ec_cw yX10_about cX10_about 3 (some .int) := ⟨ba_X10_about.1, ba_X10_about.2.1, nc_RX10⟩
theorem bv_X10_about : Cond.instanceMethod yX10_about ∈ ec_tb ∧ Cond.selects yX10_about.cls yX10_about yX10_about ∈ ec_tb := ⟨ba_X10_about.2.2.1, ba_X10_about.2.2.2.1⟩
theorem bp_X10_about : (parseMethodDescriptor yX10_about.desc).map (fun d => d.parameters.length) = some 2 := by decide +kernel
theorem bk_X10_about (l : Launch) : ∀ (ix n : Nat) (rc : Option Nat) (sp : ex_S), (be_X10_about ix).map (fun q => (q.1, q.2.1, ab_sp ab_hd q.2.2)) = some (n, rc, sp) → ex_cok l RX10 1 22 ix n rc sp := by
  intro ix n rc sp h
  obtain ⟨l0, h2, rfl⟩ := ab_dmk h
  clear h
  unfold be_X10_about at h2
  split at h2
  · cases h2; exact ec_cV (bm_X10_isPerson l) bw_X10_isPerson bv_X10_isPerson (by decide) (by decide) (Or.inl ba_X10_about.2.2.2.2.1) (T := TX10) (N := 57) rfl (by decide) bp_X10_isPerson
  · cases h2; exact ec_cS (bm_X10_isIn l) bw_X10_isIn bv_X10_isIn (by decide) (by decide) (Or.inl ba_X10_about.2.2.2.2.2.1) bp_X10_isIn
  · cases h2; exact ec_cV (bm_X10_finding l) bw_X10_finding bv_X10_finding (by decide) (by decide) (Or.inl ba_X10_about.2.2.2.2.2.2.1) (T := TX10) (N := 57) rfl (by decide) bp_X10_finding
  · cases h2
theorem bj_X10_about (l : Launch) : ex_ok l 1 22 bx_X10_about := ec_okp fo_X10 co_X10 so_X10 (bk_X10_about l)
theorem bm_X10_about (l : Launch) : ex_Met l yX10_about cX10_about 3 (some .int) 1 22 (ab_sp ab_hd bc_X10_about) := ab_met (by decide) pn_RX10 rfl (bj_X10_about l) bd_X10_about ab_hcm ab_xk bz_X10_about
theorem ba_X10_machine : ec_al [(1351, Cond.code yX10_machine cX10_machine 6 (some .int)), (68, Cond.initialized yX10_machine.cls), (1349, Cond.instanceMethod yX10_machine), (1350, Cond.selects yX10_machine.cls yX10_machine yX10_machine), (1303, Cond.methodLink RX10 171 yX10_isIn), (1291, Cond.methodLink RX10 164 yX10_isModule), (1282, Cond.methodLink RX10 160 yX10_finding)] := ec_alk (by decide +kernel)
theorem bw_X10_machine : ec_cw yX10_machine cX10_machine 6 (some .int) := ⟨ba_X10_machine.1, ba_X10_machine.2.1, nc_RX10⟩
theorem bv_X10_machine : Cond.instanceMethod yX10_machine ∈ ec_tb ∧ Cond.selects yX10_machine.cls yX10_machine yX10_machine ∈ ec_tb := ⟨ba_X10_machine.2.2.1, ba_X10_machine.2.2.2.1⟩
theorem bp_X10_machine : (parseMethodDescriptor yX10_machine.desc).map (fun d => d.parameters.length) = some 4 := by decide +kernel
theorem bk_X10_machine (l : Launch) : ∀ (ix n : Nat) (rc : Option Nat) (sp : ex_S), (be_X10_machine ix).map (fun q => (q.1, q.2.1, ab_sp ab_hd q.2.2)) = some (n, rc, sp) → ex_cok l RX10 1 22 ix n rc sp := by
  intro ix n rc sp h
  obtain ⟨l0, h2, rfl⟩ := ab_dmk h
  clear h
  unfold be_X10_machine at h2
  split at h2
  · cases h2; exact ec_cS (bm_X10_isIn l) bw_X10_isIn bv_X10_isIn (by decide) (by decide) (Or.inl ba_X10_machine.2.2.2.2.1) bp_X10_isIn
  · cases h2; exact ec_cV (bm_X10_isModule l) bw_X10_isModule bv_X10_isModule (by decide) (by decide) (Or.inl ba_X10_machine.2.2.2.2.2.1) (T := TX10) (N := 57) rfl (by decide) bp_X10_isModule
  · cases h2; exact ec_cV (bm_X10_finding l) bw_X10_finding bv_X10_finding (by decide) (by decide) (Or.inl ba_X10_machine.2.2.2.2.2.2.1) (T := TX10) (N := 57) rfl (by decide) bp_X10_finding
  · cases h2
theorem bj_X10_machine (l : Launch) : ex_ok l 1 22 bx_X10_machine := ec_okp fo_X10 co_X10 so_X10 (bk_X10_machine l)
theorem bm_X10_machine (l : Launch) : ex_Met l yX10_machine cX10_machine 6 (some .int) 1 22 (ab_sp ab_hd bc_X10_machine) := ab_met (by decide) pn_RX10 rfl (bj_X10_machine l) bd_X10_machine ab_hcm ab_xk bz_X10_machine
theorem ba_X10_as : ec_al [(1355, Cond.code yX10_as cX10_as 3 (some .int)), (68, Cond.initialized yX10_as.cls), (1353, Cond.instanceMethod yX10_as), (1354, Cond.selects yX10_as.cls yX10_as yX10_as), (1356, Cond.methodLink RX10 184 yX10_isMachine), (1303, Cond.methodLink RX10 171 yX10_isIn), (1282, Cond.methodLink RX10 160 yX10_finding)] := ec_alk (by decide +kernel)
theorem bw_X10_as : ec_cw yX10_as cX10_as 3 (some .int) := ⟨ba_X10_as.1, ba_X10_as.2.1, nc_RX10⟩
theorem bv_X10_as : Cond.instanceMethod yX10_as ∈ ec_tb ∧ Cond.selects yX10_as.cls yX10_as yX10_as ∈ ec_tb := ⟨ba_X10_as.2.2.1, ba_X10_as.2.2.2.1⟩
theorem bp_X10_as : (parseMethodDescriptor yX10_as.desc).map (fun d => d.parameters.length) = some 2 := by decide +kernel
theorem bk_X10_as (l : Launch) : ∀ (ix n : Nat) (rc : Option Nat) (sp : ex_S), (be_X10_as ix).map (fun q => (q.1, q.2.1, ab_sp ab_hd q.2.2)) = some (n, rc, sp) → ex_cok l RX10 1 22 ix n rc sp := by
  intro ix n rc sp h
  obtain ⟨l0, h2, rfl⟩ := ab_dmk h
  clear h
  unfold be_X10_as at h2
  split at h2
  · cases h2; exact ec_cV (bm_X10_isMachine l) bw_X10_isMachine bv_X10_isMachine (by decide) (by decide) (Or.inl ba_X10_as.2.2.2.2.1) (T := TX10) (N := 57) rfl (by decide) bp_X10_isMachine
  · cases h2; exact ec_cS (bm_X10_isIn l) bw_X10_isIn bv_X10_isIn (by decide) (by decide) (Or.inl ba_X10_as.2.2.2.2.2.1) bp_X10_isIn
  · cases h2; exact ec_cV (bm_X10_finding l) bw_X10_finding bv_X10_finding (by decide) (by decide) (Or.inl ba_X10_as.2.2.2.2.2.2.1) (T := TX10) (N := 57) rfl (by decide) bp_X10_finding
  · cases h2
theorem bj_X10_as (l : Launch) : ex_ok l 1 22 bx_X10_as := ec_okp fo_X10 co_X10 so_X10 (bk_X10_as l)
theorem bm_X10_as (l : Launch) : ex_Met l yX10_as cX10_as 3 (some .int) 1 22 (ab_sp ab_hd bc_X10_as) := ab_met (by decide) pn_RX10 rfl (bj_X10_as l) bd_X10_as ab_hcm ab_xk bz_X10_as
theorem ba_X10_turn : ec_al [(1363, Cond.code yX10_turn cX10_turn 4 (some .int)), (68, Cond.initialized yX10_turn.cls), (1361, Cond.instanceMethod yX10_turn), (1362, Cond.selects yX10_turn.cls yX10_turn yX10_turn), (1356, Cond.methodLink RX10 184 yX10_isMachine), (1303, Cond.methodLink RX10 171 yX10_isIn), (1282, Cond.methodLink RX10 160 yX10_finding)] := ec_alk (by decide +kernel)
theorem bw_X10_turn : ec_cw yX10_turn cX10_turn 4 (some .int) := ⟨ba_X10_turn.1, ba_X10_turn.2.1, nc_RX10⟩
theorem bv_X10_turn : Cond.instanceMethod yX10_turn ∈ ec_tb ∧ Cond.selects yX10_turn.cls yX10_turn yX10_turn ∈ ec_tb := ⟨ba_X10_turn.2.2.1, ba_X10_turn.2.2.2.1⟩
theorem bp_X10_turn : (parseMethodDescriptor yX10_turn.desc).map (fun d => d.parameters.length) = some 2 := by decide +kernel
theorem bk_X10_turn (l : Launch) : ∀ (ix n : Nat) (rc : Option Nat) (sp : ex_S), (be_X10_turn ix).map (fun q => (q.1, q.2.1, ab_sp ab_hd q.2.2)) = some (n, rc, sp) → ex_cok l RX10 1 22 ix n rc sp := by
  intro ix n rc sp h
  obtain ⟨l0, h2, rfl⟩ := ab_dmk h
  clear h
  unfold be_X10_turn at h2
  split at h2
  · cases h2; exact ec_cV (bm_X10_isMachine l) bw_X10_isMachine bv_X10_isMachine (by decide) (by decide) (Or.inl ba_X10_turn.2.2.2.2.1) (T := TX10) (N := 57) rfl (by decide) bp_X10_isMachine
  · cases h2; exact ec_cS (bm_X10_isIn l) bw_X10_isIn bv_X10_isIn (by decide) (by decide) (Or.inl ba_X10_turn.2.2.2.2.2.1) bp_X10_isIn
  · cases h2; exact ec_cV (bm_X10_finding l) bw_X10_finding bv_X10_finding (by decide) (by decide) (Or.inl ba_X10_turn.2.2.2.2.2.2.1) (T := TX10) (N := 57) rfl (by decide) bp_X10_finding
  · cases h2
theorem bj_X10_turn (l : Launch) : ex_ok l 1 22 bx_X10_turn := ec_okp fo_X10 co_X10 so_X10 (bk_X10_turn l)
theorem bm_X10_turn (l : Launch) : ex_Met l yX10_turn cX10_turn 4 (some .int) 1 22 (ab_sp ab_hd bc_X10_turn) := ab_met (by decide) pn_RX10 rfl (bj_X10_turn l) bd_X10_turn ab_hcm ab_xk bz_X10_turn
theorem ba_X10_of : ec_al [(1367, Cond.code yX10_of cX10_of 3 (some .int)), (68, Cond.initialized yX10_of.cls), (1365, Cond.instanceMethod yX10_of), (1366, Cond.selects yX10_of.cls yX10_of yX10_of), (1356, Cond.methodLink RX10 184 yX10_isMachine), (1303, Cond.methodLink RX10 171 yX10_isIn), (1282, Cond.methodLink RX10 160 yX10_finding)] := ec_alk (by decide +kernel)
theorem bw_X10_of : ec_cw yX10_of cX10_of 3 (some .int) := ⟨ba_X10_of.1, ba_X10_of.2.1, nc_RX10⟩
theorem bv_X10_of : Cond.instanceMethod yX10_of ∈ ec_tb ∧ Cond.selects yX10_of.cls yX10_of yX10_of ∈ ec_tb := ⟨ba_X10_of.2.2.1, ba_X10_of.2.2.2.1⟩
theorem bp_X10_of : (parseMethodDescriptor yX10_of.desc).map (fun d => d.parameters.length) = some 2 := by decide +kernel
theorem bk_X10_of (l : Launch) : ∀ (ix n : Nat) (rc : Option Nat) (sp : ex_S), (be_X10_of ix).map (fun q => (q.1, q.2.1, ab_sp ab_hd q.2.2)) = some (n, rc, sp) → ex_cok l RX10 1 22 ix n rc sp := by
  intro ix n rc sp h
  obtain ⟨l0, h2, rfl⟩ := ab_dmk h
  clear h
  unfold be_X10_of at h2
  split at h2
  · cases h2; exact ec_cV (bm_X10_isMachine l) bw_X10_isMachine bv_X10_isMachine (by decide) (by decide) (Or.inl ba_X10_of.2.2.2.2.1) (T := TX10) (N := 57) rfl (by decide) bp_X10_isMachine
  · cases h2; exact ec_cS (bm_X10_isIn l) bw_X10_isIn bv_X10_isIn (by decide) (by decide) (Or.inl ba_X10_of.2.2.2.2.2.1) bp_X10_isIn
  · cases h2; exact ec_cV (bm_X10_finding l) bw_X10_finding bv_X10_finding (by decide) (by decide) (Or.inl ba_X10_of.2.2.2.2.2.2.1) (T := TX10) (N := 57) rfl (by decide) bp_X10_finding
  · cases h2
theorem bj_X10_of (l : Launch) : ex_ok l 1 22 bx_X10_of := ec_okp fo_X10 co_X10 so_X10 (bk_X10_of l)
theorem bm_X10_of (l : Launch) : ex_Met l yX10_of cX10_of 3 (some .int) 1 22 (ab_sp ab_hd bc_X10_of) := ab_met (by decide) pn_RX10 rfl (bj_X10_of l) bd_X10_of ab_hcm ab_xk bz_X10_of
theorem ba_X10_spares : ec_al [(1371, Cond.code yX10_spares cX10_spares 4 (some .int)), (68, Cond.initialized yX10_spares.cls), (1369, Cond.instanceMethod yX10_spares), (1370, Cond.selects yX10_spares.cls yX10_spares yX10_spares), (1303, Cond.methodLink RX10 171 yX10_isIn), (1282, Cond.methodLink RX10 160 yX10_finding)] := ec_alk (by decide +kernel)
theorem bw_X10_spares : ec_cw yX10_spares cX10_spares 4 (some .int) := ⟨ba_X10_spares.1, ba_X10_spares.2.1, nc_RX10⟩
theorem bv_X10_spares : Cond.instanceMethod yX10_spares ∈ ec_tb ∧ Cond.selects yX10_spares.cls yX10_spares yX10_spares ∈ ec_tb := ⟨ba_X10_spares.2.2.1, ba_X10_spares.2.2.2.1⟩
theorem bp_X10_spares : (parseMethodDescriptor yX10_spares.desc).map (fun d => d.parameters.length) = some 2 := by decide +kernel
theorem bk_X10_spares (l : Launch) : ∀ (ix n : Nat) (rc : Option Nat) (sp : ex_S), (be_X10_spares ix).map (fun q => (q.1, q.2.1, ab_sp ab_hd q.2.2)) = some (n, rc, sp) → ex_cok l RX10 1 22 ix n rc sp := by
  intro ix n rc sp h
  obtain ⟨l0, h2, rfl⟩ := ab_dmk h
  clear h
  unfold be_X10_spares at h2
  split at h2
  · cases h2; exact ec_cS (bm_X10_isIn l) bw_X10_isIn bv_X10_isIn (by decide) (by decide) (Or.inl ba_X10_spares.2.2.2.2.1) bp_X10_isIn
  · cases h2; exact ec_cV (bm_X10_finding l) bw_X10_finding bv_X10_finding (by decide) (by decide) (Or.inl ba_X10_spares.2.2.2.2.2.1) (T := TX10) (N := 57) rfl (by decide) bp_X10_finding
  · cases h2
theorem bj_X10_spares (l : Launch) : ex_ok l 1 22 bx_X10_spares := ec_okp fo_X10 co_X10 so_X10 (bk_X10_spares l)
theorem bm_X10_spares (l : Launch) : ex_Met l yX10_spares cX10_spares 4 (some .int) 1 22 (ab_sp ab_hd bc_X10_spares) := ab_met (by decide) pn_RX10 rfl (bj_X10_spares l) bd_X10_spares ab_hcm ab_xk bz_X10_spares
theorem ba_X10_isMended : ec_al [(1383, Cond.code yX10_isMended cX10_isMended 4 (some .boolean)), (68, Cond.initialized yX10_isMended.cls), (1382, Cond.instanceMethod yX10_isMended), (33, Cond.selects yX10_isMended.cls yX10_isMended yX10_isMended)] := ec_alk (by decide +kernel)
theorem bw_X10_isMended : ec_cw yX10_isMended cX10_isMended 4 (some .boolean) := ⟨ba_X10_isMended.1, ba_X10_isMended.2.1, nc_RX10⟩
theorem bv_X10_isMended : Cond.instanceMethod yX10_isMended ∈ ec_tb ∧ Cond.selects yX10_isMended.cls yX10_isMended yX10_isMended ∈ ec_tb := ⟨ba_X10_isMended.2.2.1, ba_X10_isMended.2.2.2.1⟩
theorem bp_X10_isMended : (parseMethodDescriptor yX10_isMended.desc).map (fun d => d.parameters.length) = some 1 := by decide +kernel
theorem bj_X10_isMended (l : Launch) : ex_ok l 0 0 bx_X10_isMended := ec_okp fo_X10 co_X10 so_X10 (ec_okn)
theorem bm_X10_isMended (l : Launch) : ex_Met l yX10_isMended cX10_isMended 4 (some .boolean) 0 0 (ab_sp ab_hd bc_X10_isMended) := ab_met (by decide) pn_RX10 rfl (bj_X10_isMended l) bd_X10_isMended ab_hcm ab_xk bz_X10_isMended
theorem ba_X10_refusesMend : ec_al [(1379, Cond.code yX10_refusesMend cX10_refusesMend 4 (some .int)), (68, Cond.initialized yX10_refusesMend.cls), (1378, Cond.instanceMethod yX10_refusesMend), (32, Cond.selects yX10_refusesMend.cls yX10_refusesMend yX10_refusesMend), (1332, Cond.methodLink RX10 177 yX10_isPerson), (1356, Cond.methodLink RX10 184 yX10_isMachine), (1303, Cond.methodLink RX10 171 yX10_isIn), (1380, Cond.methodLink RX10 187 yX10_isMended)] := ec_alk (by decide +kernel)
theorem bw_X10_refusesMend : ec_cw yX10_refusesMend cX10_refusesMend 4 (some .int) := ⟨ba_X10_refusesMend.1, ba_X10_refusesMend.2.1, nc_RX10⟩
theorem bv_X10_refusesMend : Cond.instanceMethod yX10_refusesMend ∈ ec_tb ∧ Cond.selects yX10_refusesMend.cls yX10_refusesMend yX10_refusesMend ∈ ec_tb := ⟨ba_X10_refusesMend.2.2.1, ba_X10_refusesMend.2.2.2.1⟩
theorem bp_X10_refusesMend : (parseMethodDescriptor yX10_refusesMend.desc).map (fun d => d.parameters.length) = some 3 := by decide +kernel
theorem bk_X10_refusesMend (l : Launch) : ∀ (ix n : Nat) (rc : Option Nat) (sp : ex_S), (be_X10_refusesMend ix).map (fun q => (q.1, q.2.1, ab_sp ab_hd q.2.2)) = some (n, rc, sp) → ex_cok l RX10 1 23 ix n rc sp := by
  intro ix n rc sp h
  obtain ⟨l0, h2, rfl⟩ := ab_dmk h
  clear h
  unfold be_X10_refusesMend at h2
  split at h2
  · cases h2; exact ec_cV (bm_X10_isPerson l) bw_X10_isPerson bv_X10_isPerson (by decide) (by decide) (Or.inl ba_X10_refusesMend.2.2.2.2.1) (T := TX10) (N := 57) rfl (by decide) bp_X10_isPerson
  · cases h2; exact ec_cV (bm_X10_isMachine l) bw_X10_isMachine bv_X10_isMachine (by decide) (by decide) (Or.inl ba_X10_refusesMend.2.2.2.2.2.1) (T := TX10) (N := 57) rfl (by decide) bp_X10_isMachine
  · cases h2; exact ec_cS (bm_X10_isIn l) bw_X10_isIn bv_X10_isIn (by decide) (by decide) (Or.inl ba_X10_refusesMend.2.2.2.2.2.2.1) bp_X10_isIn
  · cases h2; exact ec_cV (bm_X10_isMended l) bw_X10_isMended bv_X10_isMended (by decide) (by decide) (Or.inl ba_X10_refusesMend.2.2.2.2.2.2.2.1) (T := TX10) (N := 57) rfl (by decide) bp_X10_isMended
  · cases h2
theorem bj_X10_refusesMend (l : Launch) : ex_ok l 1 23 bx_X10_refusesMend := ec_okp fo_X10 co_X10 so_X10 (bk_X10_refusesMend l)
theorem bm_X10_refusesMend (l : Launch) : ex_Met l yX10_refusesMend cX10_refusesMend 4 (some .int) 1 23 (ab_sp ab_hd bc_X10_refusesMend) := ab_met (by decide) pn_RX10 rfl (bj_X10_refusesMend l) bd_X10_refusesMend ab_hcm ab_xk bz_X10_refusesMend
theorem ba_X10_beginMend : ec_al [(1387, Cond.code yX10_beginMend cX10_beginMend 4 none), (68, Cond.initialized yX10_beginMend.cls), (1386, Cond.instanceMethod yX10_beginMend), (34, Cond.selects yX10_beginMend.cls yX10_beginMend yX10_beginMend)] := ec_alk (by decide +kernel)
theorem bw_X10_beginMend : ec_cw yX10_beginMend cX10_beginMend 4 none := ⟨ba_X10_beginMend.1, ba_X10_beginMend.2.1, nc_RX10⟩
theorem bv_X10_beginMend : Cond.instanceMethod yX10_beginMend ∈ ec_tb ∧ Cond.selects yX10_beginMend.cls yX10_beginMend yX10_beginMend ∈ ec_tb := ⟨ba_X10_beginMend.2.2.1, ba_X10_beginMend.2.2.2.1⟩
theorem bp_X10_beginMend : (parseMethodDescriptor yX10_beginMend.desc).map (fun d => d.parameters.length) = some 3 := by decide +kernel
theorem bj_X10_beginMend (l : Launch) : ex_ok l 0 0 bx_X10_beginMend := ec_okp fo_X10 co_X10 so_X10 (ec_okn)
theorem bm_X10_beginMend (l : Launch) : ex_Met l yX10_beginMend cX10_beginMend 4 none 0 0 (ab_sp ab_hd bc_X10_beginMend) := ab_met (by decide) pn_RX10 rfl (bj_X10_beginMend l) bd_X10_beginMend ab_hcm ab_xk bz_X10_beginMend
theorem ba_X10_repair : ec_al [(1375, Cond.code yX10_repair cX10_repair 5 (some .int)), (68, Cond.initialized yX10_repair.cls), (1373, Cond.instanceMethod yX10_repair), (1374, Cond.selects yX10_repair.cls yX10_repair yX10_repair), (1376, Cond.methodLink RX10 190 yX10_refusesMend), (1282, Cond.methodLink RX10 160 yX10_finding), (1384, Cond.methodLink RX10 194 yX10_beginMend)] := ec_alk (by decide +kernel)
theorem bw_X10_repair : ec_cw yX10_repair cX10_repair 5 (some .int) := ⟨ba_X10_repair.1, ba_X10_repair.2.1, nc_RX10⟩
theorem bv_X10_repair : Cond.instanceMethod yX10_repair ∈ ec_tb ∧ Cond.selects yX10_repair.cls yX10_repair yX10_repair ∈ ec_tb := ⟨ba_X10_repair.2.2.1, ba_X10_repair.2.2.2.1⟩
theorem bp_X10_repair : (parseMethodDescriptor yX10_repair.desc).map (fun d => d.parameters.length) = some 3 := by decide +kernel
theorem bk_X10_repair (l : Launch) : ∀ (ix n : Nat) (rc : Option Nat) (sp : ex_S), (be_X10_repair ix).map (fun q => (q.1, q.2.1, ab_sp ab_hd q.2.2)) = some (n, rc, sp) → ex_cok l RX10 2 46 ix n rc sp := by
  intro ix n rc sp h
  obtain ⟨l0, h2, rfl⟩ := ab_dmk h
  clear h
  unfold be_X10_repair at h2
  split at h2
  · cases h2; exact ec_cV (bm_X10_refusesMend l) bw_X10_refusesMend bv_X10_refusesMend (by decide) (by decide) (Or.inl ba_X10_repair.2.2.2.2.1) (T := TX10) (N := 57) rfl (by decide) bp_X10_refusesMend
  · cases h2; exact ec_cV (bm_X10_finding l) bw_X10_finding bv_X10_finding (by decide) (by decide) (Or.inl ba_X10_repair.2.2.2.2.2.1) (T := TX10) (N := 57) rfl (by decide) bp_X10_finding
  · cases h2; exact ec_cV (bm_X10_beginMend l) bw_X10_beginMend bv_X10_beginMend (by decide) (by decide) (Or.inl ba_X10_repair.2.2.2.2.2.2.1) (T := TX10) (N := 57) rfl (by decide) bp_X10_beginMend
  · cases h2
theorem bj_X10_repair (l : Launch) : ex_ok l 2 46 bx_X10_repair := ec_okp fo_X10 co_X10 so_X10 (bk_X10_repair l)
theorem bm_X10_repair (l : Launch) : ex_Met l yX10_repair cX10_repair 5 (some .int) 2 46 (ab_sp ab_hd bc_X10_repair) := ab_met (by decide) pn_RX10 rfl (bj_X10_repair l) bd_X10_repair ab_hcm ab_xk bz_X10_repair
theorem ba_X10_canShed : ec_al [(1395, Cond.code yX10_canShed cX10_canShed 2 (some .boolean)), (68, Cond.initialized yX10_canShed.cls), (1394, Cond.instanceMethod yX10_canShed), (35, Cond.selects yX10_canShed.cls yX10_canShed yX10_canShed)] := ec_alk (by decide +kernel)
theorem bw_X10_canShed : ec_cw yX10_canShed cX10_canShed 2 (some .boolean) := ⟨ba_X10_canShed.1, ba_X10_canShed.2.1, nc_RX10⟩
theorem bv_X10_canShed : Cond.instanceMethod yX10_canShed ∈ ec_tb ∧ Cond.selects yX10_canShed.cls yX10_canShed yX10_canShed ∈ ec_tb := ⟨ba_X10_canShed.2.2.1, ba_X10_canShed.2.2.2.1⟩
theorem bp_X10_canShed : (parseMethodDescriptor yX10_canShed.desc).map (fun d => d.parameters.length) = some 1 := by decide +kernel
theorem bj_X10_canShed (l : Launch) : ex_ok l 0 0 bx_X10_canShed := ec_okp fo_X10 co_X10 so_X10 (ec_okn)
theorem bm_X10_canShed (l : Launch) : ex_Met l yX10_canShed cX10_canShed 2 (some .boolean) 0 0 (ab_sp ab_hd bc_X10_canShed) := ab_met (by decide) pn_RX10 rfl (bj_X10_canShed l) bd_X10_canShed ab_hcm ab_xk bz_X10_canShed
theorem ba_X10_together : ec_al [(1399, Cond.code yX10_together cX10_together 7 (some .int)), (68, Cond.initialized yX10_together.cls), (1398, Cond.instanceMethod yX10_together), (36, Cond.selects yX10_together.cls yX10_together yX10_together), (1392, Cond.methodLink RX10 198 yX10_canShed)] := ec_alk (by decide +kernel)
theorem bw_X10_together : ec_cw yX10_together cX10_together 7 (some .int) := ⟨ba_X10_together.1, ba_X10_together.2.1, nc_RX10⟩
theorem bv_X10_together : Cond.instanceMethod yX10_together ∈ ec_tb ∧ Cond.selects yX10_together.cls yX10_together yX10_together ∈ ec_tb := ⟨ba_X10_together.2.2.1, ba_X10_together.2.2.2.1⟩
theorem bp_X10_together : (parseMethodDescriptor yX10_together.desc).map (fun d => d.parameters.length) = some 3 := by decide +kernel
theorem bk_X10_together (l : Launch) : ∀ (ix n : Nat) (rc : Option Nat) (sp : ex_S), (be_X10_together ix).map (fun q => (q.1, q.2.1, ab_sp ab_hd q.2.2)) = some (n, rc, sp) → ex_cok l RX10 1 21 ix n rc sp := by
  intro ix n rc sp h
  obtain ⟨l0, h2, rfl⟩ := ab_dmk h
  clear h
  unfold be_X10_together at h2
  split at h2
  · cases h2; exact ec_cV (bm_X10_canShed l) bw_X10_canShed bv_X10_canShed (by decide) (by decide) (Or.inl ba_X10_together.2.2.2.2.1) (T := TX10) (N := 57) rfl (by decide) bp_X10_canShed
  · cases h2
theorem bj_X10_together (l : Launch) : ex_ok l 1 21 bx_X10_together := ec_okp fo_X10 co_X10 so_X10 (bk_X10_together l)
theorem bm_X10_together (l : Launch) : ex_Met l yX10_together cX10_together 7 (some .int) 1 21 (ab_sp ab_hd bc_X10_together) := ab_met (by decide) pn_RX10 rfl (bj_X10_together l) bd_X10_together ab_hcm ab_xk bz_X10_together
theorem ba_X10_shed : ec_al [(1391, Cond.code yX10_shed cX10_shed 8 (some .int)), (68, Cond.initialized yX10_shed.cls), (1389, Cond.instanceMethod yX10_shed), (1390, Cond.selects yX10_shed.cls yX10_shed yX10_shed), (1303, Cond.methodLink RX10 171 yX10_isIn), (1282, Cond.methodLink RX10 160 yX10_finding), (1392, Cond.methodLink RX10 198 yX10_canShed), (1396, Cond.methodLink RX10 201 yX10_together)] := ec_alk (by decide +kernel)
theorem bw_X10_shed : ec_cw yX10_shed cX10_shed 8 (some .int) := ⟨ba_X10_shed.1, ba_X10_shed.2.1, nc_RX10⟩
theorem bv_X10_shed : Cond.instanceMethod yX10_shed ∈ ec_tb ∧ Cond.selects yX10_shed.cls yX10_shed yX10_shed ∈ ec_tb := ⟨ba_X10_shed.2.2.1, ba_X10_shed.2.2.2.1⟩
theorem bp_X10_shed : (parseMethodDescriptor yX10_shed.desc).map (fun d => d.parameters.length) = some 2 := by decide +kernel
theorem bk_X10_shed (l : Launch) : ∀ (ix n : Nat) (rc : Option Nat) (sp : ex_S), (be_X10_shed ix).map (fun q => (q.1, q.2.1, ab_sp ab_hd q.2.2)) = some (n, rc, sp) → ex_cok l RX10 2 47 ix n rc sp := by
  intro ix n rc sp h
  obtain ⟨l0, h2, rfl⟩ := ab_dmk h
  clear h
  unfold be_X10_shed at h2
  split at h2
  · cases h2; exact ec_cS (bm_X10_isIn l) bw_X10_isIn bv_X10_isIn (by decide) (by decide) (Or.inl ba_X10_shed.2.2.2.2.1) bp_X10_isIn
  · cases h2; exact ec_cV (bm_X10_finding l) bw_X10_finding bv_X10_finding (by decide) (by decide) (Or.inl ba_X10_shed.2.2.2.2.2.1) (T := TX10) (N := 57) rfl (by decide) bp_X10_finding
  · cases h2; exact ec_cV (bm_X10_canShed l) bw_X10_canShed bv_X10_canShed (by decide) (by decide) (Or.inl ba_X10_shed.2.2.2.2.2.2.1) (T := TX10) (N := 57) rfl (by decide) bp_X10_canShed
  · cases h2; exact ec_cV (bm_X10_together l) bw_X10_together bv_X10_together (by decide) (by decide) (Or.inl ba_X10_shed.2.2.2.2.2.2.2.1) (T := TX10) (N := 57) rfl (by decide) bp_X10_together
  · cases h2
theorem bj_X10_shed (l : Launch) : ex_ok l 2 47 bx_X10_shed := ec_okp fo_X10 co_X10 so_X10 (bk_X10_shed l)
theorem bm_X10_shed (l : Launch) : ex_Met l yX10_shed cX10_shed 8 (some .int) 2 47 (ab_sp ab_hd bc_X10_shed) := ab_met (by decide) pn_RX10 rfl (bj_X10_shed l) bd_X10_shed ab_hcm ab_xk bz_X10_shed
theorem ba_X10_endText : ec_al [(1427, Cond.code yX10_endText cX10_endText 2 none), (68, Cond.initialized yX10_endText.cls), (1426, Cond.instanceMethod yX10_endText), (38, Cond.selects yX10_endText.cls yX10_endText yX10_endText)] := ec_alk (by decide +kernel)
theorem bw_X10_endText : ec_cw yX10_endText cX10_endText 2 none := ⟨ba_X10_endText.1, ba_X10_endText.2.1, nc_RX10⟩
theorem bv_X10_endText : Cond.instanceMethod yX10_endText ∈ ec_tb ∧ Cond.selects yX10_endText.cls yX10_endText yX10_endText ∈ ec_tb := ⟨ba_X10_endText.2.2.1, ba_X10_endText.2.2.2.1⟩
theorem bp_X10_endText : (parseMethodDescriptor yX10_endText.desc).map (fun d => d.parameters.length) = some 1 := by decide +kernel
theorem bj_X10_endText (l : Launch) : ex_ok l 0 0 bx_X10_endText := ec_okp fo_X10 co_X10 so_X10 (ec_okn)
theorem bm_X10_endText (l : Launch) : ex_Met l yX10_endText cX10_endText 2 none 0 0 (ab_sp ab_hd bc_X10_endText) := ab_met (by decide) pn_RX10 rfl (bj_X10_endText l) bd_X10_endText ab_hcm ab_xk bz_X10_endText
theorem ba_X10_abortText : ec_al [(1423, Cond.code yX10_abortText cX10_abortText 1 none), (68, Cond.initialized yX10_abortText.cls), (1422, Cond.instanceMethod yX10_abortText), (37, Cond.selects yX10_abortText.cls yX10_abortText yX10_abortText), (1424, Cond.methodLink RX10 205 yX10_endText)] := ec_alk (by decide +kernel)
theorem bw_X10_abortText : ec_cw yX10_abortText cX10_abortText 1 none := ⟨ba_X10_abortText.1, ba_X10_abortText.2.1, nc_RX10⟩
theorem bv_X10_abortText : Cond.instanceMethod yX10_abortText ∈ ec_tb ∧ Cond.selects yX10_abortText.cls yX10_abortText yX10_abortText ∈ ec_tb := ⟨ba_X10_abortText.2.2.1, ba_X10_abortText.2.2.2.1⟩
theorem bp_X10_abortText : (parseMethodDescriptor yX10_abortText.desc).map (fun d => d.parameters.length) = some 0 := by decide +kernel
theorem bk_X10_abortText (l : Launch) : ∀ (ix n : Nat) (rc : Option Nat) (sp : ex_S), (be_X10_abortText ix).map (fun q => (q.1, q.2.1, ab_sp ab_hd q.2.2)) = some (n, rc, sp) → ex_cok l RX10 1 21 ix n rc sp := by
  intro ix n rc sp h
  obtain ⟨l0, h2, rfl⟩ := ab_dmk h
  clear h
  unfold be_X10_abortText at h2
  split at h2
  · cases h2; exact ec_cV (bm_X10_endText l) bw_X10_endText bv_X10_endText (by decide) (by decide) (Or.inl ba_X10_abortText.2.2.2.2.1) (T := TX10) (N := 57) rfl (by decide) bp_X10_endText
  · cases h2
theorem bj_X10_abortText (l : Launch) : ex_ok l 1 21 bx_X10_abortText := ec_okp fo_X10 co_X10 so_X10 (bk_X10_abortText l)
theorem bm_X10_abortText (l : Launch) : ex_Met l yX10_abortText cX10_abortText 1 none 1 21 (ab_sp ab_hd bc_X10_abortText) := ab_met (by decide) pn_RX10 rfl (bj_X10_abortText l) bd_X10_abortText ab_hcm ab_xk bz_X10_abortText
theorem ba_X10_isLine : ec_al [(1462, Cond.code yX10_isLine cX10_isLine 2 (some .boolean)), (68, Cond.initialized yX10_isLine.cls), (1461, Cond.instanceMethod yX10_isLine), (41, Cond.selects yX10_isLine.cls yX10_isLine yX10_isLine)] := ec_alk (by decide +kernel)
theorem bw_X10_isLine : ec_cw yX10_isLine cX10_isLine 2 (some .boolean) := ⟨ba_X10_isLine.1, ba_X10_isLine.2.1, nc_RX10⟩
theorem bv_X10_isLine : Cond.instanceMethod yX10_isLine ∈ ec_tb ∧ Cond.selects yX10_isLine.cls yX10_isLine yX10_isLine ∈ ec_tb := ⟨ba_X10_isLine.2.2.1, ba_X10_isLine.2.2.2.1⟩
theorem bp_X10_isLine : (parseMethodDescriptor yX10_isLine.desc).map (fun d => d.parameters.length) = some 1 := by decide +kernel
theorem bj_X10_isLine (l : Launch) : ex_ok l 0 0 bx_X10_isLine := ec_okp fo_X10 co_X10 so_X10 (ec_okn)
theorem bm_X10_isLine (l : Launch) : ex_Met l yX10_isLine cX10_isLine 2 (some .boolean) 0 0 (ab_sp ab_hd bc_X10_isLine) := ab_met (by decide) pn_RX10 rfl (bj_X10_isLine l) bd_X10_isLine ab_hcm ab_xk bz_X10_isLine
theorem ba_X10_canCheck : ec_al [(1470, Cond.code yX10_canCheck cX10_canCheck 4 (some .boolean)), (68, Cond.initialized yX10_canCheck.cls), (1469, Cond.instanceMethod yX10_canCheck), (43, Cond.selects yX10_canCheck.cls yX10_canCheck yX10_canCheck), (1459, Cond.methodLink RX10 212 yX10_isLine), (1303, Cond.methodLink RX10 171 yX10_isIn), (1291, Cond.methodLink RX10 164 yX10_isModule), (1356, Cond.methodLink RX10 184 yX10_isMachine)] := ec_alk (by decide +kernel)
theorem bw_X10_canCheck : ec_cw yX10_canCheck cX10_canCheck 4 (some .boolean) := ⟨ba_X10_canCheck.1, ba_X10_canCheck.2.1, nc_RX10⟩
theorem bv_X10_canCheck : Cond.instanceMethod yX10_canCheck ∈ ec_tb ∧ Cond.selects yX10_canCheck.cls yX10_canCheck yX10_canCheck ∈ ec_tb := ⟨ba_X10_canCheck.2.2.1, ba_X10_canCheck.2.2.2.1⟩
theorem bp_X10_canCheck : (parseMethodDescriptor yX10_canCheck.desc).map (fun d => d.parameters.length) = some 3 := by decide +kernel
theorem bk_X10_canCheck (l : Launch) : ∀ (ix n : Nat) (rc : Option Nat) (sp : ex_S), (be_X10_canCheck ix).map (fun q => (q.1, q.2.1, ab_sp ab_hd q.2.2)) = some (n, rc, sp) → ex_cok l RX10 1 22 ix n rc sp := by
  intro ix n rc sp h
  obtain ⟨l0, h2, rfl⟩ := ab_dmk h
  clear h
  unfold be_X10_canCheck at h2
  split at h2
  · cases h2; exact ec_cV (bm_X10_isLine l) bw_X10_isLine bv_X10_isLine (by decide) (by decide) (Or.inl ba_X10_canCheck.2.2.2.2.1) (T := TX10) (N := 57) rfl (by decide) bp_X10_isLine
  · cases h2; exact ec_cS (bm_X10_isIn l) bw_X10_isIn bv_X10_isIn (by decide) (by decide) (Or.inl ba_X10_canCheck.2.2.2.2.2.1) bp_X10_isIn
  · cases h2; exact ec_cV (bm_X10_isModule l) bw_X10_isModule bv_X10_isModule (by decide) (by decide) (Or.inl ba_X10_canCheck.2.2.2.2.2.2.1) (T := TX10) (N := 57) rfl (by decide) bp_X10_isModule
  · cases h2; exact ec_cV (bm_X10_isMachine l) bw_X10_isMachine bv_X10_isMachine (by decide) (by decide) (Or.inl ba_X10_canCheck.2.2.2.2.2.2.2.1) (T := TX10) (N := 57) rfl (by decide) bp_X10_isMachine
  · cases h2
theorem bj_X10_canCheck (l : Launch) : ex_ok l 1 22 bx_X10_canCheck := ec_okp fo_X10 co_X10 so_X10 (bk_X10_canCheck l)
theorem bm_X10_canCheck (l : Launch) : ex_Met l yX10_canCheck cX10_canCheck 4 (some .boolean) 1 22 (ab_sp ab_hd bc_X10_canCheck) := ab_met (by decide) pn_RX10 rfl (bj_X10_canCheck l) bd_X10_canCheck ab_hcm ab_xk bz_X10_canCheck
theorem ba_X10_isSo : ec_al [(1474, Cond.code yX10_isSo cX10_isSo 3 (some .boolean)), (68, Cond.initialized yX10_isSo.cls), (1473, Cond.instanceMethod yX10_isSo), (44, Cond.selects yX10_isSo.cls yX10_isSo yX10_isSo)] := ec_alk (by decide +kernel)
theorem bw_X10_isSo : ec_cw yX10_isSo cX10_isSo 3 (some .boolean) := ⟨ba_X10_isSo.1, ba_X10_isSo.2.1, nc_RX10⟩
theorem bv_X10_isSo : Cond.instanceMethod yX10_isSo ∈ ec_tb ∧ Cond.selects yX10_isSo.cls yX10_isSo yX10_isSo ∈ ec_tb := ⟨ba_X10_isSo.2.2.1, ba_X10_isSo.2.2.2.1⟩
theorem bp_X10_isSo : (parseMethodDescriptor yX10_isSo.desc).map (fun d => d.parameters.length) = some 2 := by decide +kernel
theorem bj_X10_isSo (l : Launch) : ex_ok l 0 0 bx_X10_isSo := ec_okp fo_X10 co_X10 so_X10 (ec_okn)
theorem bm_X10_isSo (l : Launch) : ex_Met l yX10_isSo cX10_isSo 3 (some .boolean) 0 0 (ab_sp ab_hd bc_X10_isSo) := ab_met (by decide) pn_RX10 rfl (bj_X10_isSo l) bd_X10_isSo ab_hcm ab_xk bz_X10_isSo
theorem ba_X10_doLine : ec_al [(1466, Cond.code yX10_doLine cX10_doLine 5 (some .boolean)), (68, Cond.initialized yX10_doLine.cls), (1465, Cond.instanceMethod yX10_doLine), (42, Cond.selects yX10_doLine.cls yX10_doLine yX10_doLine), (1467, Cond.methodLink RX10 215 yX10_canCheck), (1471, Cond.methodLink RX10 218 yX10_isSo), (1356, Cond.methodLink RX10 184 yX10_isMachine), (1299, Cond.methodLink RX10 168 yX10_isHatch), (1303, Cond.methodLink RX10 171 yX10_isIn), (1332, Cond.methodLink RX10 177 yX10_isPerson), (1291, Cond.methodLink RX10 164 yX10_isModule), (1336, Cond.methodLink RX10 180 yX10_canGo), (1459, Cond.methodLink RX10 212 yX10_isLine), (1376, Cond.methodLink RX10 190 yX10_refusesMend), (1384, Cond.methodLink RX10 194 yX10_beginMend)] := ec_alk (by decide +kernel)
theorem bw_X10_doLine : ec_cw yX10_doLine cX10_doLine 5 (some .boolean) := ⟨ba_X10_doLine.1, ba_X10_doLine.2.1, nc_RX10⟩
theorem bv_X10_doLine : Cond.instanceMethod yX10_doLine ∈ ec_tb ∧ Cond.selects yX10_doLine.cls yX10_doLine yX10_doLine ∈ ec_tb := ⟨ba_X10_doLine.2.2.1, ba_X10_doLine.2.2.2.1⟩
theorem bp_X10_doLine : (parseMethodDescriptor yX10_doLine.desc).map (fun d => d.parameters.length) = some 4 := by decide +kernel
theorem bk_X10_doLine (l : Launch) : ∀ (ix n : Nat) (rc : Option Nat) (sp : ex_S), (be_X10_doLine ix).map (fun q => (q.1, q.2.1, ab_sp ab_hd q.2.2)) = some (n, rc, sp) → ex_cok l RX10 2 46 ix n rc sp := by
  intro ix n rc sp h
  obtain ⟨l0, h2, rfl⟩ := ab_dmk h
  clear h
  unfold be_X10_doLine at h2
  split at h2
  · cases h2; exact ec_cV (bm_X10_canCheck l) bw_X10_canCheck bv_X10_canCheck (by decide) (by decide) (Or.inl ba_X10_doLine.2.2.2.2.1) (T := TX10) (N := 57) rfl (by decide) bp_X10_canCheck
  · cases h2; exact ec_cV (bm_X10_isSo l) bw_X10_isSo bv_X10_isSo (by decide) (by decide) (Or.inl ba_X10_doLine.2.2.2.2.2.1) (T := TX10) (N := 57) rfl (by decide) bp_X10_isSo
  · cases h2; exact ec_cV (bm_X10_isMachine l) bw_X10_isMachine bv_X10_isMachine (by decide) (by decide) (Or.inl ba_X10_doLine.2.2.2.2.2.2.1) (T := TX10) (N := 57) rfl (by decide) bp_X10_isMachine
  · cases h2; exact ec_cV (bm_X10_isHatch l) bw_X10_isHatch bv_X10_isHatch (by decide) (by decide) (Or.inl ba_X10_doLine.2.2.2.2.2.2.2.1) (T := TX10) (N := 57) rfl (by decide) bp_X10_isHatch
  · cases h2; exact ec_cS (bm_X10_isIn l) bw_X10_isIn bv_X10_isIn (by decide) (by decide) (Or.inl ba_X10_doLine.2.2.2.2.2.2.2.2.1) bp_X10_isIn
  · cases h2; exact ec_cV (bm_X10_isPerson l) bw_X10_isPerson bv_X10_isPerson (by decide) (by decide) (Or.inl ba_X10_doLine.2.2.2.2.2.2.2.2.2.1) (T := TX10) (N := 57) rfl (by decide) bp_X10_isPerson
  · cases h2; exact ec_cV (bm_X10_isModule l) bw_X10_isModule bv_X10_isModule (by decide) (by decide) (Or.inl ba_X10_doLine.2.2.2.2.2.2.2.2.2.2.1) (T := TX10) (N := 57) rfl (by decide) bp_X10_isModule
  · cases h2; exact ec_cV (bm_X10_canGo l) bw_X10_canGo bv_X10_canGo (by decide) (by decide) (Or.inl ba_X10_doLine.2.2.2.2.2.2.2.2.2.2.2.1) (T := TX10) (N := 57) rfl (by decide) bp_X10_canGo
  · cases h2; exact ec_cV (bm_X10_isLine l) bw_X10_isLine bv_X10_isLine (by decide) (by decide) (Or.inl ba_X10_doLine.2.2.2.2.2.2.2.2.2.2.2.2.1) (T := TX10) (N := 57) rfl (by decide) bp_X10_isLine
  · cases h2; exact ec_cV (bm_X10_refusesMend l) bw_X10_refusesMend bv_X10_refusesMend (by decide) (by decide) (Or.inl ba_X10_doLine.2.2.2.2.2.2.2.2.2.2.2.2.2.1) (T := TX10) (N := 57) rfl (by decide) bp_X10_refusesMend
  · cases h2; exact ec_cV (bm_X10_beginMend l) bw_X10_beginMend bv_X10_beginMend (by decide) (by decide) (Or.inl ba_X10_doLine.2.2.2.2.2.2.2.2.2.2.2.2.2.2.1) (T := TX10) (N := 57) rfl (by decide) bp_X10_beginMend
  · cases h2
theorem bj_X10_doLine (l : Launch) : ex_ok l 2 46 bx_X10_doLine := ec_okp fo_X10 co_X10 so_X10 (bk_X10_doLine l)
theorem bm_X10_doLine (l : Launch) : ex_Met l yX10_doLine cX10_doLine 5 (some .boolean) 2 46 (ab_sp ab_hd bc_X10_doLine) := ab_met (by decide) pn_RX10 rfl (bj_X10_doLine l) bd_X10_doLine ab_hcm ab_xk bz_X10_doLine
theorem ba_X10_runText : ec_al [(1458, Cond.code yX10_runText cX10_runText 2 none), (68, Cond.initialized yX10_runText.cls), (1457, Cond.instanceMethod yX10_runText), (40, Cond.selects yX10_runText.cls yX10_runText yX10_runText), (1459, Cond.methodLink RX10 212 yX10_isLine), (1424, Cond.methodLink RX10 205 yX10_endText), (1463, Cond.methodLink RX10 221 yX10_doLine), (1420, Cond.methodLink RX10 225 yX10_abortText)] := ec_alk (by decide +kernel)
theorem bw_X10_runText : ec_cw yX10_runText cX10_runText 2 none := ⟨ba_X10_runText.1, ba_X10_runText.2.1, nc_RX10⟩
theorem bv_X10_runText : Cond.instanceMethod yX10_runText ∈ ec_tb ∧ Cond.selects yX10_runText.cls yX10_runText yX10_runText ∈ ec_tb := ⟨ba_X10_runText.2.2.1, ba_X10_runText.2.2.2.1⟩
theorem bp_X10_runText : (parseMethodDescriptor yX10_runText.desc).map (fun d => d.parameters.length) = some 0 := by decide +kernel
theorem bk_X10_runText (l : Launch) : ∀ (ix n : Nat) (rc : Option Nat) (sp : ex_S), (be_X10_runText ix).map (fun q => (q.1, q.2.1, ab_sp ab_hd q.2.2)) = some (n, rc, sp) → ex_cok l RX10 3 70 ix n rc sp := by
  intro ix n rc sp h
  obtain ⟨l0, h2, rfl⟩ := ab_dmk h
  clear h
  unfold be_X10_runText at h2
  split at h2
  · cases h2; exact ec_cV (bm_X10_isLine l) bw_X10_isLine bv_X10_isLine (by decide) (by decide) (Or.inl ba_X10_runText.2.2.2.2.1) (T := TX10) (N := 57) rfl (by decide) bp_X10_isLine
  · cases h2; exact ec_cV (bm_X10_endText l) bw_X10_endText bv_X10_endText (by decide) (by decide) (Or.inl ba_X10_runText.2.2.2.2.2.1) (T := TX10) (N := 57) rfl (by decide) bp_X10_endText
  · cases h2; exact ec_cV (bm_X10_doLine l) bw_X10_doLine bv_X10_doLine (by decide) (by decide) (Or.inl ba_X10_runText.2.2.2.2.2.2.1) (T := TX10) (N := 57) rfl (by decide) bp_X10_doLine
  · cases h2; exact ec_cV (bm_X10_abortText l) bw_X10_abortText bv_X10_abortText (by decide) (by decide) (Or.inl ba_X10_runText.2.2.2.2.2.2.2.1) (T := TX10) (N := 57) rfl (by decide) bp_X10_abortText
  · cases h2
theorem bj_X10_runText (l : Launch) : ex_ok l 3 70 bx_X10_runText := ec_okp fo_X10 co_X10 so_X10 (bk_X10_runText l)
theorem bm_X10_runText (l : Launch) : ex_Met l yX10_runText cX10_runText 2 none 3 70 (ab_sp ab_hd bc_X10_runText) := ab_met (by decide) pn_RX10 rfl (bj_X10_runText l) bd_X10_runText ab_hcm ab_xk bz_X10_runText

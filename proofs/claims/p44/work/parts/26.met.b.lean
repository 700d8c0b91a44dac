theorem bw_X6_readySet : ec_cw yX6_readySet cX6_readySet 3 (some .int) := ⟨ec_in (i := 646) (by decide +kernel) rfl, ec_in (i := 63) (by decide +kernel) rfl, by decide, by decide⟩
theorem bv_X6_readySet : Cond.instanceMethod yX6_readySet ∈ ec_tb ∧ Cond.selects yX6_readySet.cls yX6_readySet yX6_readySet ∈ ec_tb := ⟨ec_in (i := 645) (by decide +kernel) rfl, ec_in (i := 2) (by decide +kernel) rfl⟩
theorem bk_X6_readySet (l : Launch) : ∀ (ix n : Nat) (rc : Option Nat) (sp : ex_S), (be_X6_readySet ix).map (fun q => (q.1, q.2.1, ab_sp ab_hd q.2.2)) = some (n, rc, sp) → ex_cok l RX6 1 21 ix n rc sp := by
  intro ix n rc sp h
  obtain ⟨l0, h2, rfl⟩ := ab_dmk h
  clear h
  unfold be_X6_readySet at h2
  split at h2
  · cases h2; exact ec_cV (bm_X6_isReady l) bw_X6_isReady bv_X6_isReady (by decide) (by decide) (Or.inl (ec_in (i := 647) (by decide +kernel) rfl)) (T := TX6) (N := 15) rfl (by decide) (by decide +kernel)
  · cases h2
theorem bj_X6_readySet (l : Launch) : ex_ok l 1 21 bx_X6_readySet := ⟨ec_fok fo_X6, ec_cok co_X6, so_X6, bk_X6_readySet l, fun _ h => (by cases h), fun _ h => (by cases h), fun _ h => (by cases h), fun _ _ h => (by cases h)⟩
theorem bm_X6_readySet (l : Launch) : ex_Met l yX6_readySet cX6_readySet 3 (some .int) 1 21 (ab_sp ab_hd bc_X6_readySet) := ab_met (by decide) (by decide) rfl (bj_X6_readySet l) bd_X6_readySet ab_hcm ab_xk bz_X6_readySet
theorem bw_X6_sumOver : ec_cw yX6_sumOver cX6_sumOver 5 (some .int) := ⟨ec_in (i := 654) (by decide +kernel) rfl, ec_in (i := 63) (by decide +kernel) rfl, by decide, by decide⟩
theorem bv_X6_sumOver : Cond.instanceMethod yX6_sumOver ∈ ec_tb ∧ Cond.selects yX6_sumOver.cls yX6_sumOver yX6_sumOver ∈ ec_tb := ⟨ec_in (i := 653) (by decide +kernel) rfl, ec_in (i := 4) (by decide +kernel) rfl⟩
theorem bj_X6_sumOver (l : Launch) : ex_ok l 0 0 bx_X6_sumOver := ⟨ec_fok fo_X6, ec_cok co_X6, so_X6, fun _ _ _ _ h => (by cases h), fun _ h => (by cases h), fun _ h => (by cases h), fun _ h => (by cases h), fun _ _ h => (by cases h)⟩
theorem bm_X6_sumOver (l : Launch) : ex_Met l yX6_sumOver cX6_sumOver 5 (some .int) 0 0 (ab_sp ab_hd bc_X6_sumOver) := ab_met (by decide) (by decide) rfl (bj_X6_sumOver l) bd_X6_sumOver ab_hcm ab_xk bz_X6_sumOver
theorem bw_X6_leastHarm : ec_cw yX6_leastHarm cX6_leastHarm 8 (some .int) := ⟨ec_in (i := 642) (by decide +kernel) rfl, ec_in (i := 63) (by decide +kernel) rfl, by decide, by decide⟩
theorem bv_X6_leastHarm : Cond.instanceMethod yX6_leastHarm ∈ ec_tb ∧ Cond.selects yX6_leastHarm.cls yX6_leastHarm yX6_leastHarm ∈ ec_tb := ⟨ec_in (i := 641) (by decide +kernel) rfl, ec_in (i := 1) (by decide +kernel) rfl⟩
theorem bk_X6_leastHarm (l : Launch) : ∀ (ix n : Nat) (rc : Option Nat) (sp : ex_S), (be_X6_leastHarm ix).map (fun q => (q.1, q.2.1, ab_sp ab_hd q.2.2)) = some (n, rc, sp) → ex_cok l RX6 2 43 ix n rc sp := by
  intro ix n rc sp h
  obtain ⟨l0, h2, rfl⟩ := ab_dmk h
  clear h
  unfold be_X6_leastHarm at h2
  split at h2
  · cases h2; exact ec_cV (bm_X6_readySet l) bw_X6_readySet bv_X6_readySet (by decide) (by decide) (Or.inl (ec_in (i := 643) (by decide +kernel) rfl)) (T := TX6) (N := 15) rfl (by decide) (by decide +kernel)
  · cases h2; exact ec_cV (bm_X6_sumOver l) bw_X6_sumOver bv_X6_sumOver (by decide) (by decide) (Or.inl (ec_in (i := 651) (by decide +kernel) rfl)) (T := TX6) (N := 15) rfl (by decide) (by decide +kernel)
  · cases h2; exact ec_cS (bm_J6_bitCount_0f7a4 l) bw_J6_bitCount_0f7a4 bv_J6_bitCount_0f7a4 (by decide) (by decide) (Or.inl (ec_in (i := 655) (by decide +kernel) rfl)) (by decide +kernel)
  · cases h2
theorem bj_X6_leastHarm (l : Launch) : ex_ok l 2 43 bx_X6_leastHarm := ⟨ec_fok fo_X6, ec_cok co_X6, so_X6, bk_X6_leastHarm l, fun _ h => (by cases h), fun _ h => (by cases h), fun _ h => (by cases h), fun _ _ h => (by cases h)⟩
theorem bm_X6_leastHarm (l : Launch) : ex_Met l yX6_leastHarm cX6_leastHarm 8 (some .int) 2 43 (ab_sp ab_hd bc_X6_leastHarm) := ab_met (by decide) (by decide) rfl (bj_X6_leastHarm l) bd_X6_leastHarm ab_hcm ab_xk bz_X6_leastHarm
theorem bw_X6_shedding : ec_cw yX6_shedding cX6_shedding 3 (some .int) := ⟨ec_in (i := 638) (by decide +kernel) rfl, ec_in (i := 63) (by decide +kernel) rfl, by decide, by decide⟩
theorem bv_X6_shedding : Cond.instanceMethod yX6_shedding ∈ ec_tb ∧ Cond.selects yX6_shedding.cls yX6_shedding yX6_shedding ∈ ec_tb := ⟨ec_in (i := 636) (by decide +kernel) rfl, ec_in (i := 637) (by decide +kernel) rfl⟩
theorem bk_X6_shedding (l : Launch) : ∀ (ix n : Nat) (rc : Option Nat) (sp : ex_S), (be_X6_shedding ix).map (fun q => (q.1, q.2.1, ab_sp ab_hd q.2.2)) = some (n, rc, sp) → ex_cok l RX6 3 70 ix n rc sp := by
  intro ix n rc sp h
  obtain ⟨l0, h2, rfl⟩ := ab_dmk h
  clear h
  unfold be_X6_shedding at h2
  split at h2
  · cases h2; exact ec_cV (bm_X6_leastHarm l) bw_X6_leastHarm bv_X6_leastHarm (by decide) (by decide) (Or.inl (ec_in (i := 639) (by decide +kernel) rfl)) (T := TX6) (N := 15) rfl (by decide) (by decide +kernel)
  · cases h2; exact ec_cV (bm_X6_sumOver l) bw_X6_sumOver bv_X6_sumOver (by decide) (by decide) (Or.inl (ec_in (i := 651) (by decide +kernel) rfl)) (T := TX6) (N := 15) rfl (by decide) (by decide +kernel)
  · cases h2; exact ec_cV (bm_X6_readySet l) bw_X6_readySet bv_X6_readySet (by decide) (by decide) (Or.inl (ec_in (i := 643) (by decide +kernel) rfl)) (T := TX6) (N := 15) rfl (by decide) (by decide +kernel)
  · cases h2
theorem bj_X6_shedding (l : Launch) : ex_ok l 3 70 bx_X6_shedding := ⟨ec_fok fo_X6, ec_cok co_X6, so_X6, bk_X6_shedding l, fun _ h => (by cases h), fun _ h => (by cases h), fun _ h => (by cases h), fun _ _ h => (by cases h)⟩
theorem bm_X6_shedding (l : Launch) : ex_Met l yX6_shedding cX6_shedding 3 (some .int) 3 70 (ab_sp ab_hd bc_X6_shedding) := ab_met (by decide) (by decide) rfl (bj_X6_shedding l) bd_X6_shedding ab_hcm ab_xk bz_X6_shedding
theorem bw_X7_has : ec_cw yX7_has cX7_has 2 (some .boolean) := ⟨ec_in (i := 709) (by decide +kernel) rfl, ec_in (i := 59) (by decide +kernel) rfl, by decide, by decide⟩
theorem bv_X7_has : Cond.instanceMethod yX7_has ∈ ec_tb ∧ Cond.selects yX7_has.cls yX7_has yX7_has ∈ ec_tb := ⟨ec_in (i := 707) (by decide +kernel) rfl, ec_in (i := 708) (by decide +kernel) rfl⟩
theorem bj_X7_has (l : Launch) : ex_ok l 0 0 bx_X7_has := ⟨ec_fok fo_X7, ec_cok co_X7, so_X7, fun _ _ _ _ h => (by cases h), fun _ h => (by cases h), fun _ h => (by cases h), fun _ h => (by cases h), fun _ _ h => (by cases h)⟩
theorem bm_X7_has (l : Launch) : ex_Met l yX7_has cX7_has 2 (some .boolean) 0 0 (ab_sp ab_hd bc_X7_has) := ab_met (by decide) (by decide) rfl (bj_X7_has l) bd_X7_has ab_hcm ab_xk bz_X7_has
theorem bw_X7_addLine : ec_cw yX7_addLine cX7_addLine 5 (some .int) := ⟨ec_in (i := 909) (by decide +kernel) rfl, ec_in (i := 59) (by decide +kernel) rfl, by decide, by decide⟩
theorem bv_X7_addLine : Cond.instanceMethod yX7_addLine ∈ ec_tb ∧ Cond.selects yX7_addLine.cls yX7_addLine yX7_addLine ∈ ec_tb := ⟨ec_in (i := 907) (by decide +kernel) rfl, ec_in (i := 908) (by decide +kernel) rfl⟩
theorem bj_X7_addLine (l : Launch) : ex_ok l 0 0 bx_X7_addLine := ⟨ec_fok fo_X7, ec_cok co_X7, so_X7, fun _ _ _ _ h => (by cases h), fun _ h => (by cases h), fun _ h => (by cases h), fun _ h => (by cases h), fun _ _ h => (by cases h)⟩
theorem bm_X7_addLine (l : Launch) : ex_Met l yX7_addLine cX7_addLine 5 (some .int) 0 0 (ab_sp ab_hd bc_X7_addLine) := ab_met (by decide) (by decide) rfl (bj_X7_addLine l) bd_X7_addLine ab_hcm ab_xk bz_X7_addLine
theorem bw_X8_becomeLike : ec_cw yX8_becomeLike cX8_becomeLike 2 none := ⟨ec_in (i := 867) (by decide +kernel) rfl, ec_in (i := 60) (by decide +kernel) rfl, by decide, by decide⟩
theorem bv_X8_becomeLike : Cond.instanceMethod yX8_becomeLike ∈ ec_tb ∧ Cond.selects yX8_becomeLike.cls yX8_becomeLike yX8_becomeLike ∈ ec_tb := ⟨ec_in (i := 865) (by decide +kernel) rfl, ec_in (i := 866) (by decide +kernel) rfl⟩
theorem bk_X8_becomeLike (l : Launch) : ∀ (ix n : Nat) (rc : Option Nat) (sp : ex_S), (be_X8_becomeLike ix).map (fun q => (q.1, q.2.1, ab_sp ab_hd q.2.2)) = some (n, rc, sp) → ex_cok l RX8 3 68 ix n rc sp := by
  intro ix n rc sp h
  obtain ⟨l0, h2, rfl⟩ := ab_dmk h
  clear h
  unfold be_X8_becomeLike at h2
  split at h2
  · cases h2; exact ec_cV (bm_X0_becomeLike l) bw_X0_becomeLike bv_X0_becomeLike (by decide) (by decide) (Or.inl (ec_in (i := 868) (by decide +kernel) rfl)) (T := TX0) (N := 8) rfl (by decide) (by decide +kernel)
  · cases h2; exact ec_cV (bm_X3_becomeLike l) bw_X3_becomeLike bv_X3_becomeLike (by decide) (by decide) (Or.inl (ec_in (i := 882) (by decide +kernel) rfl)) (T := TX3) (N := 7) rfl (by decide) (by decide +kernel)
  · cases h2; exact ec_cV (bm_X6_becomeLike l) bw_X6_becomeLike bv_X6_becomeLike (by decide) (by decide) (Or.inl (ec_in (i := 887) (by decide +kernel) rfl)) (T := TX6) (N := 15) rfl (by decide) (by decide +kernel)
  · cases h2; exact ec_cV (bm_X1_becomeLike l) bw_X1_becomeLike bv_X1_becomeLike (by decide) (by decide) (Or.inl (ec_in (i := 893) (by decide +kernel) rfl)) (T := TX1) (N := 6) rfl (by decide) (by decide +kernel)
  · cases h2; exact ec_cV (bm_X2_becomeLike l) bw_X2_becomeLike bv_X2_becomeLike (by decide) (by decide) (Or.inl (ec_in (i := 897) (by decide +kernel) rfl)) (T := TX2) (N := 7) rfl (by decide) (by decide +kernel)
  · cases h2
theorem bj_X8_becomeLike (l : Launch) : ex_ok l 3 68 bx_X8_becomeLike := ⟨ec_fok fo_X8, ec_cok co_X8, so_X8, bk_X8_becomeLike l, fun _ h => (by cases h), fun _ h => (by cases h), fun _ h => (by cases h), fun _ _ h => (by cases h)⟩
theorem bm_X8_becomeLike (l : Launch) : ex_Met l yX8_becomeLike cX8_becomeLike 2 none 3 68 (ab_sp ab_hd bc_X8_becomeLike) := ab_met (by decide) (by decide) rfl (bj_X8_becomeLike l) bd_X8_becomeLike ab_hcm ab_xk bz_X8_becomeLike
theorem bw_X8_isCheck : ec_cw yX8_isCheck cX8_isCheck 4 (some .boolean) := ⟨ec_in (i := 725) (by decide +kernel) rfl, ec_in (i := 60) (by decide +kernel) rfl, by decide, by decide⟩
theorem bv_X8_isCheck : Cond.instanceMethod yX8_isCheck ∈ ec_tb ∧ Cond.selects yX8_isCheck.cls yX8_isCheck yX8_isCheck ∈ ec_tb := ⟨ec_in (i := 724) (by decide +kernel) rfl, ec_in (i := 8) (by decide +kernel) rfl⟩
theorem bk_X8_isCheck (l : Launch) : ∀ (ix n : Nat) (rc : Option Nat) (sp : ex_S), (be_X8_isCheck ix).map (fun q => (q.1, q.2.1, ab_sp ab_hd q.2.2)) = some (n, rc, sp) → ex_cok l RX8 1 21 ix n rc sp := by
  intro ix n rc sp h
  obtain ⟨l0, h2, rfl⟩ := ab_dmk h
  clear h
  unfold be_X8_isCheck at h2
  split at h2
  · cases h2; exact ec_cV (bm_X6_has l) bw_X6_has bv_X6_has (by decide) (by decide) (Or.inl (ec_in (i := 621) (by decide +kernel) rfl)) (T := TX6) (N := 15) rfl (by decide) (by decide +kernel)
  · cases h2; exact ec_cS (bm_X0_isSort l) bw_X0_isSort bv_X0_isSort (by decide) (by decide) (Or.inl (ec_in (i := 726) (by decide +kernel) rfl)) (by decide +kernel)
  · cases h2; exact ec_cV (bm_X0_hasModule l) bw_X0_hasModule bv_X0_hasModule (by decide) (by decide) (Or.inl (ec_in (i := 521) (by decide +kernel) rfl)) (T := TX0) (N := 8) rfl (by decide) (by decide +kernel)
  · cases h2
theorem bj_X8_isCheck (l : Launch) : ex_ok l 1 21 bx_X8_isCheck := ⟨ec_fok fo_X8, ec_cok co_X8, so_X8, bk_X8_isCheck l, fun _ h => (by cases h), fun _ h => (by cases h), fun _ h => (by cases h), fun _ _ h => (by cases h)⟩
theorem bm_X8_isCheck (l : Launch) : ex_Met l yX8_isCheck cX8_isCheck 4 (some .boolean) 1 21 (ab_sp ab_hd bc_X8_isCheck) := ab_met (by decide) (by decide) rfl (bj_X8_isCheck l) bd_X8_isCheck ab_hcm ab_xk bz_X8_isCheck
theorem bw_X8_holds : ec_cw yX8_holds cX8_holds 4 (some .boolean) := ⟨ec_in (i := 730) (by decide +kernel) rfl, ec_in (i := 60) (by decide +kernel) rfl, by decide, by decide⟩
theorem bv_X8_holds : Cond.instanceMethod yX8_holds ∈ ec_tb ∧ Cond.selects yX8_holds.cls yX8_holds yX8_holds ∈ ec_tb := ⟨ec_in (i := 729) (by decide +kernel) rfl, ec_in (i := 9) (by decide +kernel) rfl⟩
theorem bk_X8_holds (l : Launch) : ∀ (ix n : Nat) (rc : Option Nat) (sp : ex_S), (be_X8_holds ix).map (fun q => (q.1, q.2.1, ab_sp ab_hd q.2.2)) = some (n, rc, sp) → ex_cok l RX8 1 22 ix n rc sp := by
  intro ix n rc sp h
  obtain ⟨l0, h2, rfl⟩ := ab_dmk h
  clear h
  unfold be_X8_holds at h2
  split at h2
  · cases h2; exact ec_cV (bm_X0_amount l) bw_X0_amount bv_X0_amount (by decide) (by decide) (Or.inl (ec_in (i := 731) (by decide +kernel) rfl)) (T := TX0) (N := 8) rfl (by decide) (by decide +kernel)
  · cases h2
theorem bj_X8_holds (l : Launch) : ex_ok l 1 22 bx_X8_holds := ⟨ec_fok fo_X8, ec_cok co_X8, so_X8, bk_X8_holds l, fun _ h => (by cases h), fun _ h => (by cases h), fun _ h => (by cases h), fun _ _ h => (by cases h)⟩
theorem bm_X8_holds (l : Launch) : ex_Met l yX8_holds cX8_holds 4 (some .boolean) 1 22 (ab_sp ab_hd bc_X8_holds) := ab_met (by decide) (by decide) rfl (bj_X8_holds l) bd_X8_holds ab_hcm ab_xk bz_X8_holds
theorem bw_X8_lineAfterCheck : ec_cw yX8_lineAfterCheck cX8_lineAfterCheck 6 (some .int) := ⟨ec_in (i := 721) (by decide +kernel) rfl, ec_in (i := 60) (by decide +kernel) rfl, by decide, by decide⟩
theorem bv_X8_lineAfterCheck : Cond.instanceMethod yX8_lineAfterCheck ∈ ec_tb ∧ Cond.selects yX8_lineAfterCheck.cls yX8_lineAfterCheck yX8_lineAfterCheck ∈ ec_tb := ⟨ec_in (i := 720) (by decide +kernel) rfl, ec_in (i := 7) (by decide +kernel) rfl⟩
theorem bk_X8_lineAfterCheck (l : Launch) : ∀ (ix n : Nat) (rc : Option Nat) (sp : ex_S), (be_X8_lineAfterCheck ix).map (fun q => (q.1, q.2.1, ab_sp ab_hd q.2.2)) = some (n, rc, sp) → ex_cok l RX8 2 45 ix n rc sp := by
  intro ix n rc sp h
  obtain ⟨l0, h2, rfl⟩ := ab_dmk h
  clear h
  unfold be_X8_lineAfterCheck at h2
  split at h2
  · cases h2; exact ec_cV (bm_X7_has l) bw_X7_has bv_X7_has (by decide) (by decide) (Or.inl (ec_in (i := 706) (by decide +kernel) rfl)) (T := TX7) (N := 5) rfl (by decide) (by decide +kernel)
  · cases h2; exact ec_cV (bm_X8_isCheck l) bw_X8_isCheck bv_X8_isCheck (by decide) (by decide) (Or.inl (ec_in (i := 722) (by decide +kernel) rfl)) (T := TX8) (N := 7) rfl (by decide) (by decide +kernel)
  · cases h2; exact ec_cV (bm_X8_holds l) bw_X8_holds bv_X8_holds (by decide) (by decide) (Or.inl (ec_in (i := 727) (by decide +kernel) rfl)) (T := TX8) (N := 7) rfl (by decide) (by decide +kernel)
  · cases h2
theorem bj_X8_lineAfterCheck (l : Launch) : ex_ok l 2 45 bx_X8_lineAfterCheck := ⟨ec_fok fo_X8, ec_cok co_X8, so_X8, bk_X8_lineAfterCheck l, fun _ h => (by cases h), fun _ h => (by cases h), fun _ h => (by cases h), fun _ _ h => (by cases h)⟩
theorem bm_X8_lineAfterCheck (l : Launch) : ex_Met l yX8_lineAfterCheck cX8_lineAfterCheck 6 (some .int) 2 45 (ab_sp ab_hd bc_X8_lineAfterCheck) := ab_met (by decide) (by decide) rfl (bj_X8_lineAfterCheck l) bd_X8_lineAfterCheck ab_hcm ab_xk bz_X8_lineAfterCheck
theorem bw_X8_walk : ec_cw yX8_walk cX8_walk 3 (some .int) := ⟨ec_in (i := 516) (by decide +kernel) rfl, ec_in (i := 60) (by decide +kernel) rfl, by decide, by decide⟩
theorem bv_X8_walk : Cond.instanceMethod yX8_walk ∈ ec_tb ∧ Cond.selects yX8_walk.cls yX8_walk yX8_walk ∈ ec_tb := ⟨ec_in (i := 514) (by decide +kernel) rfl, ec_in (i := 515) (by decide +kernel) rfl⟩
theorem bk_X8_walk (l : Launch) : ∀ (ix n : Nat) (rc : Option Nat) (sp : ex_S), (be_X8_walk ix).map (fun q => (q.1, q.2.1, ab_sp ab_hd q.2.2)) = some (n, rc, sp) → ex_cok l RX8 1 24 ix n rc sp := by
  intro ix n rc sp h
  obtain ⟨l0, h2, rfl⟩ := ab_dmk h
  clear h
  unfold be_X8_walk at h2
  split at h2
  · cases h2; exact ec_cV (bm_X3_has l) bw_X3_has bv_X3_has (by decide) (by decide) (Or.inl (ec_in (i := 517) (by decide +kernel) rfl)) (T := TX3) (N := 7) rfl (by decide) (by decide +kernel)
  · cases h2; exact ec_cV (bm_X0_hasModule l) bw_X0_hasModule bv_X0_hasModule (by decide) (by decide) (Or.inl (ec_in (i := 521) (by decide +kernel) rfl)) (T := TX0) (N := 8) rfl (by decide) (by decide +kernel)
  · cases h2; exact ec_cV (bm_X3_mends l) bw_X3_mends bv_X3_mends (by decide) (by decide) (Or.inl (ec_in (i := 523) (by decide +kernel) rfl)) (T := TX3) (N := 7) rfl (by decide) (by decide +kernel)
  · cases h2; exact ec_cV (bm_X0_openBetween l) bw_X0_openBetween bv_X0_openBetween (by decide) (by decide) (Or.inl (ec_in (i := 527) (by decide +kernel) rfl)) (T := TX0) (N := 8) rfl (by decide) (by decide +kernel)
  · cases h2
theorem bj_X8_walk (l : Launch) : ex_ok l 1 24 bx_X8_walk := ⟨ec_fok fo_X8, ec_cok co_X8, so_X8, bk_X8_walk l, fun _ h => (by cases h), fun _ h => (by cases h), fun _ h => (by cases h), fun _ _ h => (by cases h)⟩
theorem bm_X8_walk (l : Launch) : ex_Met l yX8_walk cX8_walk 3 (some .int) 1 24 (ab_sp ab_hd bc_X8_walk) := ab_met (by decide) (by decide) rfl (bj_X8_walk l) bd_X8_walk ab_hcm ab_xk bz_X8_walk
theorem bw_X8_mend : ec_cw yX8_mend cX8_mend 5 (some .int) := ⟨ec_in (i := 620) (by decide +kernel) rfl, ec_in (i := 60) (by decide +kernel) rfl, by decide, by decide⟩
theorem bv_X8_mend : Cond.instanceMethod yX8_mend ∈ ec_tb ∧ Cond.selects yX8_mend.cls yX8_mend yX8_mend ∈ ec_tb := ⟨ec_in (i := 618) (by decide +kernel) rfl, ec_in (i := 619) (by decide +kernel) rfl⟩
theorem bk_X8_mend (l : Launch) : ∀ (ix n : Nat) (rc : Option Nat) (sp : ex_S), (be_X8_mend ix).map (fun q => (q.1, q.2.1, ab_sp ab_hd q.2.2)) = some (n, rc, sp) → ex_cok l RX8 1 23 ix n rc sp := by
  intro ix n rc sp h
  obtain ⟨l0, h2, rfl⟩ := ab_dmk h
  clear h
  unfold be_X8_mend at h2
  split at h2
  · cases h2; exact ec_cV (bm_X3_has l) bw_X3_has bv_X3_has (by decide) (by decide) (Or.inl (ec_in (i := 517) (by decide +kernel) rfl)) (T := TX3) (N := 7) rfl (by decide) (by decide +kernel)
  · cases h2; exact ec_cV (bm_X6_has l) bw_X6_has bv_X6_has (by decide) (by decide) (Or.inl (ec_in (i := 621) (by decide +kernel) rfl)) (T := TX6) (N := 15) rfl (by decide) (by decide +kernel)
  · cases h2; exact ec_cV (bm_X3_isMended l) bw_X3_isMended bv_X3_isMended (by decide) (by decide) (Or.inl (ec_in (i := 622) (by decide +kernel) rfl)) (T := TX3) (N := 7) rfl (by decide) (by decide +kernel)
  · cases h2; exact ec_cV (bm_X3_mends l) bw_X3_mends bv_X3_mends (by decide) (by decide) (Or.inl (ec_in (i := 523) (by decide +kernel) rfl)) (T := TX3) (N := 7) rfl (by decide) (by decide +kernel)
  · cases h2; exact ec_cV (bm_X3_startMending l) bw_X3_startMending bv_X3_startMending (by decide) (by decide) (Or.inl (ec_in (i := 627) (by decide +kernel) rfl)) (T := TX3) (N := 7) rfl (by decide) (by decide +kernel)
  · cases h2
theorem bj_X8_mend (l : Launch) : ex_ok l 1 23 bx_X8_mend := ⟨ec_fok fo_X8, ec_cok co_X8, so_X8, bk_X8_mend l, fun _ h => (by cases h), fun _ h => (by cases h), fun _ h => (by cases h), fun _ _ h => (by cases h)⟩
theorem bm_X8_mend (l : Launch) : ex_Met l yX8_mend cX8_mend 5 (some .int) 1 23 (ab_sp ab_hd bc_X8_mend) := ab_met (by decide) (by decide) rfl (bj_X8_mend l) bd_X8_mend ab_hcm ab_xk bz_X8_mend
theorem bw_X8_actByText : ec_cw yX8_actByText cX8_actByText 4 (some .int) := ⟨ec_in (i := 738) (by decide +kernel) rfl, ec_in (i := 60) (by decide +kernel) rfl, by decide, by decide⟩
theorem bv_X8_actByText : Cond.instanceMethod yX8_actByText ∈ ec_tb ∧ Cond.selects yX8_actByText.cls yX8_actByText yX8_actByText ∈ ec_tb := ⟨ec_in (i := 737) (by decide +kernel) rfl, ec_in (i := 10) (by decide +kernel) rfl⟩
theorem bk_X8_actByText (l : Launch) : ∀ (ix n : Nat) (rc : Option Nat) (sp : ex_S), (be_X8_actByText ix).map (fun q => (q.1, q.2.1, ab_sp ab_hd q.2.2)) = some (n, rc, sp) → ex_cok l RX8 2 47 ix n rc sp := by
  intro ix n rc sp h
  obtain ⟨l0, h2, rfl⟩ := ab_dmk h
  clear h
  unfold be_X8_actByText at h2
  split at h2
  · cases h2; exact ec_cV (bm_X6_setOn l) bw_X6_setOn bv_X6_setOn (by decide) (by decide) (Or.inl (ec_in (i := 739) (by decide +kernel) rfl)) (T := TX6) (N := 15) rfl (by decide) (by decide +kernel)
  · cases h2; exact ec_cV (bm_X0_setOpen l) bw_X0_setOpen bv_X0_setOpen (by decide) (by decide) (Or.inl (ec_in (i := 740) (by decide +kernel) rfl)) (T := TX0) (N := 8) rfl (by decide) (by decide +kernel)
  · cases h2; exact ec_cV (bm_X8_walk l) bw_X8_walk bv_X8_walk (by decide) (by decide) (Or.inl (ec_in (i := 741) (by decide +kernel) rfl)) (T := TX8) (N := 7) rfl (by decide) (by decide +kernel)
  · cases h2; exact ec_cV (bm_X8_mend l) bw_X8_mend bv_X8_mend (by decide) (by decide) (Or.inl (ec_in (i := 742) (by decide +kernel) rfl)) (T := TX8) (N := 7) rfl (by decide) (by decide +kernel)
  · cases h2
theorem bj_X8_actByText (l : Launch) : ex_ok l 2 47 bx_X8_actByText := ⟨ec_fok fo_X8, ec_cok co_X8, so_X8, bk_X8_actByText l, fun _ h => (by cases h), fun _ h => (by cases h), fun _ h => (by cases h), fun _ _ h => (by cases h)⟩
theorem bm_X8_actByText (l : Launch) : ex_Met l yX8_actByText cX8_actByText 4 (some .int) 2 47 (ab_sp ab_hd bc_X8_actByText) := ab_met (by decide) (by decide) rfl (bj_X8_actByText l) bd_X8_actByText ab_hcm ab_xk bz_X8_actByText
theorem bw_X8_lineAfter : ec_cw yX8_lineAfter cX8_lineAfter 3 (some .int) := ⟨ec_in (i := 717) (by decide +kernel) rfl, ec_in (i := 60) (by decide +kernel) rfl, by decide, by decide⟩
theorem bv_X8_lineAfter : Cond.instanceMethod yX8_lineAfter ∈ ec_tb ∧ Cond.selects yX8_lineAfter.cls yX8_lineAfter yX8_lineAfter ∈ ec_tb := ⟨ec_in (i := 716) (by decide +kernel) rfl, ec_in (i := 6) (by decide +kernel) rfl⟩
theorem bk_X8_lineAfter (l : Launch) : ∀ (ix n : Nat) (rc : Option Nat) (sp : ex_S), (be_X8_lineAfter ix).map (fun q => (q.1, q.2.1, ab_sp ab_hd q.2.2)) = some (n, rc, sp) → ex_cok l RX8 3 70 ix n rc sp := by
  intro ix n rc sp h
  obtain ⟨l0, h2, rfl⟩ := ab_dmk h
  clear h
  unfold be_X8_lineAfter at h2
  split at h2
  · cases h2; exact ec_cV (bm_X8_lineAfterCheck l) bw_X8_lineAfterCheck bv_X8_lineAfterCheck (by decide) (by decide) (Or.inl (ec_in (i := 718) (by decide +kernel) rfl)) (T := TX8) (N := 7) rfl (by decide) (by decide +kernel)
  · cases h2; exact ec_cV (bm_X7_has l) bw_X7_has bv_X7_has (by decide) (by decide) (Or.inl (ec_in (i := 706) (by decide +kernel) rfl)) (T := TX7) (N := 5) rfl (by decide) (by decide +kernel)
  · cases h2; exact ec_cV (bm_X8_actByText l) bw_X8_actByText bv_X8_actByText (by decide) (by decide) (Or.inl (ec_in (i := 735) (by decide +kernel) rfl)) (T := TX8) (N := 7) rfl (by decide) (by decide +kernel)
  · cases h2
theorem bj_X8_lineAfter (l : Launch) : ex_ok l 3 70 bx_X8_lineAfter := ⟨ec_fok fo_X8, ec_cok co_X8, so_X8, bk_X8_lineAfter l, fun _ h => (by cases h), fun _ h => (by cases h), fun _ h => (by cases h), fun _ _ h => (by cases h)⟩
theorem bm_X8_lineAfter (l : Launch) : ex_Met l yX8_lineAfter cX8_lineAfter 3 (some .int) 3 70 (ab_sp ab_hd bc_X8_lineAfter) := ab_met (by decide) (by decide) rfl (bj_X8_lineAfter l) bd_X8_lineAfter ab_hcm ab_xk bz_X8_lineAfter
theorem bw_X8_doText : ec_cw yX8_doText cX8_doText 2 none := ⟨ec_in (i := 705) (by decide +kernel) rfl, ec_in (i := 60) (by decide +kernel) rfl, by decide, by decide⟩
theorem bv_X8_doText : Cond.instanceMethod yX8_doText ∈ ec_tb ∧ Cond.selects yX8_doText.cls yX8_doText yX8_doText ∈ ec_tb := ⟨ec_in (i := 704) (by decide +kernel) rfl, ec_in (i := 5) (by decide +kernel) rfl⟩
theorem bk_X8_doText (l : Launch) : ∀ (ix n : Nat) (rc : Option Nat) (sp : ex_S), (be_X8_doText ix).map (fun q => (q.1, q.2.1, ab_sp ab_hd q.2.2)) = some (n, rc, sp) → ex_cok l RX8 4 92 ix n rc sp := by
  intro ix n rc sp h
  obtain ⟨l0, h2, rfl⟩ := ab_dmk h
  clear h
  unfold be_X8_doText at h2
  split at h2
  · cases h2; exact ec_cV (bm_X7_has l) bw_X7_has bv_X7_has (by decide) (by decide) (Or.inl (ec_in (i := 706) (by decide +kernel) rfl)) (T := TX7) (N := 5) rfl (by decide) (by decide +kernel)
  · cases h2; exact ec_cV (bm_X2_finish l) bw_X2_finish bv_X2_finish (by decide) (by decide) (Or.inl (ec_in (i := 710) (by decide +kernel) rfl)) (T := TX2) (N := 7) rfl (by decide) (by decide +kernel)
  · cases h2; exact ec_cV (bm_X8_lineAfter l) bw_X8_lineAfter bv_X8_lineAfter (by decide) (by decide) (Or.inl (ec_in (i := 714) (by decide +kernel) rfl)) (T := TX8) (N := 7) rfl (by decide) (by decide +kernel)
  · cases h2; exact ec_cV (bm_X2_goOnAt l) bw_X2_goOnAt bv_X2_goOnAt (by decide) (by decide) (Or.inl (ec_in (i := 744) (by decide +kernel) rfl)) (T := TX2) (N := 7) rfl (by decide) (by decide +kernel)
  · cases h2
theorem bj_X8_doText (l : Launch) : ex_ok l 4 92 bx_X8_doText := ⟨ec_fok fo_X8, ec_cok co_X8, so_X8, bk_X8_doText l, fun _ h => (by cases h), fun _ h => (by cases h), fun _ h => (by cases h), fun _ _ h => (by cases h)⟩
theorem bm_X8_doText (l : Launch) : ex_Met l yX8_doText cX8_doText 2 none 4 92 (ab_sp ab_hd bc_X8_doText) := ab_met (by decide) (by decide) rfl (bj_X8_doText l) bd_X8_doText ab_hcm ab_xk bz_X8_doText
theorem bw_X8_passTick : ec_cw yX8_passTick cX8_passTick 2 (some .boolean) := ⟨ec_in (i := 701) (by decide +kernel) rfl, ec_in (i := 60) (by decide +kernel) rfl, by decide, by decide⟩
theorem bv_X8_passTick : Cond.instanceMethod yX8_passTick ∈ ec_tb ∧ Cond.selects yX8_passTick.cls yX8_passTick yX8_passTick ∈ ec_tb := ⟨ec_in (i := 699) (by decide +kernel) rfl, ec_in (i := 700) (by decide +kernel) rfl⟩
theorem bk_X8_passTick (l : Launch) : ∀ (ix n : Nat) (rc : Option Nat) (sp : ex_S), (be_X8_passTick ix).map (fun q => (q.1, q.2.1, ab_sp ab_hd q.2.2)) = some (n, rc, sp) → ex_cok l RX8 5 113 ix n rc sp := by
  intro ix n rc sp h
  obtain ⟨l0, h2, rfl⟩ := ab_dmk h
  clear h
  unfold be_X8_passTick at h2
  split at h2
  · cases h2; exact ec_cV (bm_X8_doText l) bw_X8_doText bv_X8_doText (by decide) (by decide) (Or.inl (ec_in (i := 702) (by decide +kernel) rfl)) (T := TX8) (N := 7) rfl (by decide) (by decide +kernel)
  · cases h2; exact ec_cV (bm_X3_mendOn l) bw_X3_mendOn bv_X3_mendOn (by decide) (by decide) (Or.inl (ec_in (i := 753) (by decide +kernel) rfl)) (T := TX3) (N := 7) rfl (by decide) (by decide +kernel)
  · cases h2; exact ec_cV (bm_X6_sharePower l) bw_X6_sharePower bv_X6_sharePower (by decide) (by decide) (Or.inl (ec_in (i := 761) (by decide +kernel) rfl)) (T := TX6) (N := 15) rfl (by decide) (by decide +kernel)
  · cases h2; exact ec_cV (bm_X6_workAll l) bw_X6_workAll bv_X6_workAll (by decide) (by decide) (Or.inl (ec_in (i := 765) (by decide +kernel) rfl)) (T := TX6) (N := 15) rfl (by decide) (by decide +kernel)
  · cases h2; exact ec_cV (bm_X3_live l) bw_X3_live bv_X3_live (by decide) (by decide) (Or.inl (ec_in (i := 798) (by decide +kernel) rfl)) (T := TX3) (N := 7) rfl (by decide) (by decide +kernel)
  · cases h2; exact ec_cV (bm_X0_leakOut l) bw_X0_leakOut bv_X0_leakOut (by decide) (by decide) (Or.inl (ec_in (i := 819) (by decide +kernel) rfl)) (T := TX0) (N := 8) rfl (by decide) (by decide +kernel)
  · cases h2; exact ec_cV (bm_X0_mixThroughHatches l) bw_X0_mixThroughHatches bv_X0_mixThroughHatches (by decide) (by decide) (Or.inl (ec_in (i := 826) (by decide +kernel) rfl)) (T := TX0) (N := 8) rfl (by decide) (by decide +kernel)
  · cases h2; exact ec_cV (bm_X1_look l) bw_X1_look bv_X1_look (by decide) (by decide) (Or.inl (ec_in (i := 834) (by decide +kernel) rfl)) (T := TX1) (N := 6) rfl (by decide) (by decide +kernel)
  · cases h2
theorem bj_X8_passTick (l : Launch) : ex_ok l 5 113 bx_X8_passTick := ⟨ec_fok fo_X8, ec_cok co_X8, so_X8, bk_X8_passTick l, fun _ h => (by cases h), fun _ h => (by cases h), fun _ h => (by cases h), fun _ _ h => (by cases h)⟩
theorem bm_X8_passTick (l : Launch) : ex_Met l yX8_passTick cX8_passTick 2 (some .boolean) 5 113 (ab_sp ab_hd bc_X8_passTick) := ab_met (by decide) (by decide) rfl (bj_X8_passTick l) bd_X8_passTick ab_hcm ab_xk bz_X8_passTick
theorem bw_X9_counted : ec_cw yX9_counted cX9_counted 2 (some .int) := ⟨ec_in (i := 427) (by decide +kernel) rfl, ec_in (i := 58) (by decide +kernel) rfl, by decide, by decide⟩
theorem bv_X9_counted : Cond.instanceMethod yX9_counted ∈ ec_tb ∧ Cond.selects yX9_counted.cls yX9_counted yX9_counted ∈ ec_tb := ⟨ec_in (i := 426) (by decide +kernel) rfl, ec_in (i := 0) (by decide +kernel) rfl⟩
theorem bj_X9_counted (l : Launch) : ex_ok l 0 0 bx_X9_counted := ⟨ec_fok fo_X9, ec_cok co_X9, so_X9, fun _ _ _ _ h => (by cases h), fun _ h => (by cases h), fun _ h => (by cases h), fun _ h => (by cases h), fun _ _ h => (by cases h)⟩
theorem bm_X9_counted (l : Launch) : ex_Met l yX9_counted cX9_counted 2 (some .int) 0 0 (ab_sp ab_hd bc_X9_counted) := ab_met (by decide) (by decide) rfl (bj_X9_counted l) bd_X9_counted ab_hcm ab_xk bz_X9_counted
theorem bw_X9_module : ec_cw yX9_module cX9_module 1 (some .int) := ⟨ec_in (i := 418) (by decide +kernel) rfl, ec_in (i := 58) (by decide +kernel) rfl, by decide, by decide⟩
theorem bv_X9_module : Cond.instanceMethod yX9_module ∈ ec_tb ∧ Cond.selects yX9_module.cls yX9_module yX9_module ∈ ec_tb := ⟨ec_in (i := 416) (by decide +kernel) rfl, ec_in (i := 417) (by decide +kernel) rfl⟩
theorem bk_X9_module (l : Launch) : ∀ (ix n : Nat) (rc : Option Nat) (sp : ex_S), (be_X9_module ix).map (fun q => (q.1, q.2.1, ab_sp ab_hd q.2.2)) = some (n, rc, sp) → ex_cok l RX9 1 21 ix n rc sp := by
  intro ix n rc sp h
  obtain ⟨l0, h2, rfl⟩ := ab_dmk h
  clear h
  unfold be_X9_module at h2
  split at h2
  · cases h2; exact ec_cV (bm_X0_addModule l) bw_X0_addModule bv_X0_addModule (by decide) (by decide) (Or.inl (ec_in (i := 419) (by decide +kernel) rfl)) (T := TX0) (N := 8) rfl (by decide) (by decide +kernel)
  · cases h2; exact ec_cV (bm_X9_counted l) bw_X9_counted bv_X9_counted (by decide) (by decide) (Or.inl (ec_in (i := 424) (by decide +kernel) rfl)) (T := TX9) (N := 10) rfl (by decide) (by decide +kernel)
  · cases h2
theorem bj_X9_module (l : Launch) : ex_ok l 1 21 bx_X9_module := ⟨ec_fok fo_X9, ec_cok co_X9, so_X9, bk_X9_module l, fun _ h => (by cases h), fun _ h => (by cases h), fun _ h => (by cases h), fun _ _ h => (by cases h)⟩
theorem bm_X9_module (l : Launch) : ex_Met l yX9_module cX9_module 1 (some .int) 1 21 (ab_sp ab_hd bc_X9_module) := ab_met (by decide) (by decide) rfl (bj_X9_module l) bd_X9_module ab_hcm ab_xk bz_X9_module
theorem bw_X9_hatch : ec_cw yX9_hatch cX9_hatch 3 (some .int) := ⟨ec_in (i := 433) (by decide +kernel) rfl, ec_in (i := 58) (by decide +kernel) rfl, by decide, by decide⟩
theorem bv_X9_hatch : Cond.instanceMethod yX9_hatch ∈ ec_tb ∧ Cond.selects yX9_hatch.cls yX9_hatch yX9_hatch ∈ ec_tb := ⟨ec_in (i := 431) (by decide +kernel) rfl, ec_in (i := 432) (by decide +kernel) rfl⟩
theorem bk_X9_hatch (l : Launch) : ∀ (ix n : Nat) (rc : Option Nat) (sp : ex_S), (be_X9_hatch ix).map (fun q => (q.1, q.2.1, ab_sp ab_hd q.2.2)) = some (n, rc, sp) → ex_cok l RX9 2 43 ix n rc sp := by
  intro ix n rc sp h
  obtain ⟨l0, h2, rfl⟩ := ab_dmk h
  clear h
  unfold be_X9_hatch at h2
  split at h2
  · cases h2; exact ec_cV (bm_X0_addHatch l) bw_X0_addHatch bv_X0_addHatch (by decide) (by decide) (Or.inl (ec_in (i := 434) (by decide +kernel) rfl)) (T := TX0) (N := 8) rfl (by decide) (by decide +kernel)
  · cases h2; exact ec_cV (bm_X9_counted l) bw_X9_counted bv_X9_counted (by decide) (by decide) (Or.inl (ec_in (i := 424) (by decide +kernel) rfl)) (T := TX9) (N := 10) rfl (by decide) (by decide +kernel)
  · cases h2
theorem bj_X9_hatch (l : Launch) : ex_ok l 2 43 bx_X9_hatch := ⟨ec_fok fo_X9, ec_cok co_X9, so_X9, bk_X9_hatch l, fun _ h => (by cases h), fun _ h => (by cases h), fun _ h => (by cases h), fun _ _ h => (by cases h)⟩
theorem bm_X9_hatch (l : Launch) : ex_Met l yX9_hatch cX9_hatch 3 (some .int) 2 43 (ab_sp ab_hd bc_X9_hatch) := ab_met (by decide) (by decide) rfl (bj_X9_hatch l) bd_X9_hatch ab_hcm ab_xk bz_X9_hatch
theorem bw_X9_shut : ec_cw yX9_shut cX9_shut 3 (some .int) := ⟨ec_in (i := 446) (by decide +kernel) rfl, ec_in (i := 58) (by decide +kernel) rfl, by decide, by decide⟩
theorem bv_X9_shut : Cond.instanceMethod yX9_shut ∈ ec_tb ∧ Cond.selects yX9_shut.cls yX9_shut yX9_shut ∈ ec_tb := ⟨ec_in (i := 444) (by decide +kernel) rfl, ec_in (i := 445) (by decide +kernel) rfl⟩
theorem bk_X9_shut (l : Launch) : ∀ (ix n : Nat) (rc : Option Nat) (sp : ex_S), (be_X9_shut ix).map (fun q => (q.1, q.2.1, ab_sp ab_hd q.2.2)) = some (n, rc, sp) → ex_cok l RX9 2 44 ix n rc sp := by
  intro ix n rc sp h
  obtain ⟨l0, h2, rfl⟩ := ab_dmk h
  clear h
  unfold be_X9_shut at h2
  split at h2
  · cases h2; exact ec_cV (bm_X0_setOpen l) bw_X0_setOpen bv_X0_setOpen (by decide) (by decide) (Or.inl (ec_in (i := 447) (by decide +kernel) rfl)) (T := TX0) (N := 8) rfl (by decide) (by decide +kernel)
  · cases h2; exact ec_cV (bm_X9_counted l) bw_X9_counted bv_X9_counted (by decide) (by decide) (Or.inl (ec_in (i := 424) (by decide +kernel) rfl)) (T := TX9) (N := 10) rfl (by decide) (by decide +kernel)
  · cases h2
theorem bj_X9_shut (l : Launch) : ex_ok l 2 44 bx_X9_shut := ⟨ec_fok fo_X9, ec_cok co_X9, so_X9, bk_X9_shut l, fun _ h => (by cases h), fun _ h => (by cases h), fun _ h => (by cases h), fun _ _ h => (by cases h)⟩
theorem bm_X9_shut (l : Launch) : ex_Met l yX9_shut cX9_shut 3 (some .int) 2 44 (ab_sp ab_hd bc_X9_shut) := ab_met (by decide) (by decide) rfl (bj_X9_shut l) bd_X9_shut ab_hcm ab_xk bz_X9_shut
theorem bw_X9_gas : ec_cw yX9_gas cX9_gas 4 (some .int) := ⟨ec_in (i := 464) (by decide +kernel) rfl, ec_in (i := 58) (by decide +kernel) rfl, by decide, by decide⟩
theorem bv_X9_gas : Cond.instanceMethod yX9_gas ∈ ec_tb ∧ Cond.selects yX9_gas.cls yX9_gas yX9_gas ∈ ec_tb := ⟨ec_in (i := 462) (by decide +kernel) rfl, ec_in (i := 463) (by decide +kernel) rfl⟩
theorem bk_X9_gas (l : Launch) : ∀ (ix n : Nat) (rc : Option Nat) (sp : ex_S), (be_X9_gas ix).map (fun q => (q.1, q.2.1, ab_sp ab_hd q.2.2)) = some (n, rc, sp) → ex_cok l RX9 2 45 ix n rc sp := by
  intro ix n rc sp h
  obtain ⟨l0, h2, rfl⟩ := ab_dmk h
  clear h
  unfold be_X9_gas at h2
  split at h2
  · cases h2; exact ec_cV (bm_X0_setHeld l) bw_X0_setHeld bv_X0_setHeld (by decide) (by decide) (Or.inl (ec_in (i := 465) (by decide +kernel) rfl)) (T := TX0) (N := 8) rfl (by decide) (by decide +kernel)
  · cases h2; exact ec_cV (bm_X9_counted l) bw_X9_counted bv_X9_counted (by decide) (by decide) (Or.inl (ec_in (i := 424) (by decide +kernel) rfl)) (T := TX9) (N := 10) rfl (by decide) (by decide +kernel)
  · cases h2
theorem bj_X9_gas (l : Launch) : ex_ok l 2 45 bx_X9_gas := ⟨ec_fok fo_X9, ec_cok co_X9, so_X9, bk_X9_gas l, fun _ h => (by cases h), fun _ h => (by cases h), fun _ h => (by cases h), fun _ _ h => (by cases h)⟩
theorem bm_X9_gas (l : Launch) : ex_Met l yX9_gas cX9_gas 4 (some .int) 2 45 (ab_sp ab_hd bc_X9_gas) := ab_met (by decide) (by decide) rfl (bj_X9_gas l) bd_X9_gas ab_hcm ab_xk bz_X9_gas
theorem bw_X9_leak : ec_cw yX9_leak cX9_leak 3 (some .int) := ⟨ec_in (i := 476) (by decide +kernel) rfl, ec_in (i := 58) (by decide +kernel) rfl, by decide, by decide⟩
theorem bv_X9_leak : Cond.instanceMethod yX9_leak ∈ ec_tb ∧ Cond.selects yX9_leak.cls yX9_leak yX9_leak ∈ ec_tb := ⟨ec_in (i := 474) (by decide +kernel) rfl, ec_in (i := 475) (by decide +kernel) rfl⟩
theorem bk_X9_leak (l : Launch) : ∀ (ix n : Nat) (rc : Option Nat) (sp : ex_S), (be_X9_leak ix).map (fun q => (q.1, q.2.1, ab_sp ab_hd q.2.2)) = some (n, rc, sp) → ex_cok l RX9 2 44 ix n rc sp := by
  intro ix n rc sp h
  obtain ⟨l0, h2, rfl⟩ := ab_dmk h
  clear h
  unfold be_X9_leak at h2
  split at h2
  · cases h2; exact ec_cV (bm_X0_setLeak l) bw_X0_setLeak bv_X0_setLeak (by decide) (by decide) (Or.inl (ec_in (i := 477) (by decide +kernel) rfl)) (T := TX0) (N := 8) rfl (by decide) (by decide +kernel)
  · cases h2; exact ec_cV (bm_X9_counted l) bw_X9_counted bv_X9_counted (by decide) (by decide) (Or.inl (ec_in (i := 424) (by decide +kernel) rfl)) (T := TX9) (N := 10) rfl (by decide) (by decide +kernel)
  · cases h2
theorem bj_X9_leak (l : Launch) : ex_ok l 2 44 bx_X9_leak := ⟨ec_fok fo_X9, ec_cok co_X9, so_X9, bk_X9_leak l, fun _ h => (by cases h), fun _ h => (by cases h), fun _ h => (by cases h), fun _ _ h => (by cases h)⟩
theorem bm_X9_leak (l : Launch) : ex_Met l yX9_leak cX9_leak 3 (some .int) 2 44 (ab_sp ab_hd bc_X9_leak) := ab_met (by decide) (by decide) rfl (bj_X9_leak l) bd_X9_leak ab_hcm ab_xk bz_X9_leak
theorem bw_X9_tank : ec_cw yX9_tank cX9_tank 3 (some .int) := ⟨ec_in (i := 484) (by decide +kernel) rfl, ec_in (i := 58) (by decide +kernel) rfl, by decide, by decide⟩
theorem bv_X9_tank : Cond.instanceMethod yX9_tank ∈ ec_tb ∧ Cond.selects yX9_tank.cls yX9_tank yX9_tank ∈ ec_tb := ⟨ec_in (i := 482) (by decide +kernel) rfl, ec_in (i := 483) (by decide +kernel) rfl⟩
theorem bk_X9_tank (l : Launch) : ∀ (ix n : Nat) (rc : Option Nat) (sp : ex_S), (be_X9_tank ix).map (fun q => (q.1, q.2.1, ab_sp ab_hd q.2.2)) = some (n, rc, sp) → ex_cok l RX9 1 23 ix n rc sp := by
  intro ix n rc sp h
  obtain ⟨l0, h2, rfl⟩ := ab_dmk h
  clear h
  unfold be_X9_tank at h2
  split at h2
  · cases h2; exact ec_cV (bm_X0_setStored l) bw_X0_setStored bv_X0_setStored (by decide) (by decide) (Or.inl (ec_in (i := 485) (by decide +kernel) rfl)) (T := TX0) (N := 8) rfl (by decide) (by decide +kernel)
  · cases h2; exact ec_cV (bm_X9_counted l) bw_X9_counted bv_X9_counted (by decide) (by decide) (Or.inl (ec_in (i := 424) (by decide +kernel) rfl)) (T := TX9) (N := 10) rfl (by decide) (by decide +kernel)
  · cases h2
theorem bj_X9_tank (l : Launch) : ex_ok l 1 23 bx_X9_tank := ⟨ec_fok fo_X9, ec_cok co_X9, so_X9, bk_X9_tank l, fun _ h => (by cases h), fun _ h => (by cases h), fun _ h => (by cases h), fun _ _ h => (by cases h)⟩
theorem bm_X9_tank (l : Launch) : ex_Met l yX9_tank cX9_tank 3 (some .int) 1 23 (ab_sp ab_hd bc_X9_tank) := ab_met (by decide) (by decide) rfl (bj_X9_tank l) bd_X9_tank ab_hcm ab_xk bz_X9_tank
theorem bw_X9_grams : ec_cw yX9_grams cX9_grams 1 (some .int) := ⟨ec_in (i := 493) (by decide +kernel) rfl, ec_in (i := 58) (by decide +kernel) rfl, by decide, by decide⟩
theorem bv_X9_grams : Cond.instanceMethod yX9_grams ∈ ec_tb ∧ Cond.selects yX9_grams.cls yX9_grams yX9_grams ∈ ec_tb := ⟨ec_in (i := 491) (by decide +kernel) rfl, ec_in (i := 492) (by decide +kernel) rfl⟩
theorem bk_X9_grams (l : Launch) : ∀ (ix n : Nat) (rc : Option Nat) (sp : ex_S), (be_X9_grams ix).map (fun q => (q.1, q.2.1, ab_sp ab_hd q.2.2)) = some (n, rc, sp) → ex_cok l RX9 1 23 ix n rc sp := by
  intro ix n rc sp h
  obtain ⟨l0, h2, rfl⟩ := ab_dmk h
  clear h
  unfold be_X9_grams at h2
  split at h2
  · cases h2; exact ec_cV (bm_X0_allGrams l) bw_X0_allGrams bv_X0_allGrams (by decide) (by decide) (Or.inl (ec_in (i := 494) (by decide +kernel) rfl)) (T := TX0) (N := 8) rfl (by decide) (by decide +kernel)
  · cases h2
theorem bj_X9_grams (l : Launch) : ex_ok l 1 23 bx_X9_grams := ⟨ec_fok fo_X9, ec_cok co_X9, so_X9, bk_X9_grams l, fun _ h => (by cases h), fun _ h => (by cases h), fun _ h => (by cases h), fun _ _ h => (by cases h)⟩
theorem bm_X9_grams (l : Launch) : ex_Met l yX9_grams cX9_grams 1 (some .int) 1 23 (ab_sp ab_hd bc_X9_grams) := ab_met (by decide) (by decide) rfl (bj_X9_grams l) bd_X9_grams ab_hcm ab_xk bz_X9_grams
theorem bw_X9_person : ec_cw yX9_person cX9_person 2 (some .int) := ⟨ec_in (i := 501) (by decide +kernel) rfl, ec_in (i := 58) (by decide +kernel) rfl, by decide, by decide⟩
theorem bv_X9_person : Cond.instanceMethod yX9_person ∈ ec_tb ∧ Cond.selects yX9_person.cls yX9_person yX9_person ∈ ec_tb := ⟨ec_in (i := 499) (by decide +kernel) rfl, ec_in (i := 500) (by decide +kernel) rfl⟩
theorem bk_X9_person (l : Launch) : ∀ (ix n : Nat) (rc : Option Nat) (sp : ex_S), (be_X9_person ix).map (fun q => (q.1, q.2.1, ab_sp ab_hd q.2.2)) = some (n, rc, sp) → ex_cok l RX9 1 21 ix n rc sp := by
  intro ix n rc sp h
  obtain ⟨l0, h2, rfl⟩ := ab_dmk h
  clear h
  unfold be_X9_person at h2
  split at h2
  · cases h2; exact ec_cV (bm_X0_hasModule l) bw_X0_hasModule bv_X0_hasModule (by decide) (by decide) (Or.inl (ec_in (i := 502) (by decide +kernel) rfl)) (T := TX0) (N := 8) rfl (by decide) (by decide +kernel)
  · cases h2; exact ec_cV (bm_X9_counted l) bw_X9_counted bv_X9_counted (by decide) (by decide) (Or.inl (ec_in (i := 424) (by decide +kernel) rfl)) (T := TX9) (N := 10) rfl (by decide) (by decide +kernel)
  · cases h2; exact ec_cV (bm_X3_addPerson l) bw_X3_addPerson bv_X3_addPerson (by decide) (by decide) (Or.inl (ec_in (i := 504) (by decide +kernel) rfl)) (T := TX3) (N := 7) rfl (by decide) (by decide +kernel)
  · cases h2
theorem bj_X9_person (l : Launch) : ex_ok l 1 21 bx_X9_person := ⟨ec_fok fo_X9, ec_cok co_X9, so_X9, bk_X9_person l, fun _ h => (by cases h), fun _ h => (by cases h), fun _ h => (by cases h), fun _ _ h => (by cases h)⟩
theorem bm_X9_person (l : Launch) : ex_Met l yX9_person cX9_person 2 (some .int) 1 21 (ab_sp ab_hd bc_X9_person) := ab_met (by decide) (by decide) rfl (bj_X9_person l) bd_X9_person ab_hcm ab_xk bz_X9_person
theorem bw_X9_go : ec_cw yX9_go cX9_go 3 (some .int) := ⟨ec_in (i := 512) (by decide +kernel) rfl, ec_in (i := 58) (by decide +kernel) rfl, by decide, by decide⟩
theorem bv_X9_go : Cond.instanceMethod yX9_go ∈ ec_tb ∧ Cond.selects yX9_go.cls yX9_go yX9_go ∈ ec_tb := ⟨ec_in (i := 510) (by decide +kernel) rfl, ec_in (i := 511) (by decide +kernel) rfl⟩
theorem bk_X9_go (l : Launch) : ∀ (ix n : Nat) (rc : Option Nat) (sp : ex_S), (be_X9_go ix).map (fun q => (q.1, q.2.1, ab_sp ab_hd q.2.2)) = some (n, rc, sp) → ex_cok l RX9 2 46 ix n rc sp := by
  intro ix n rc sp h
  obtain ⟨l0, h2, rfl⟩ := ab_dmk h
  clear h
  unfold be_X9_go at h2
  split at h2
  · cases h2; exact ec_cV (bm_X8_walk l) bw_X8_walk bv_X8_walk (by decide) (by decide) (Or.inl (ec_in (i := 513) (by decide +kernel) rfl)) (T := TX8) (N := 7) rfl (by decide) (by decide +kernel)
  · cases h2; exact ec_cV (bm_X9_counted l) bw_X9_counted bv_X9_counted (by decide) (by decide) (Or.inl (ec_in (i := 424) (by decide +kernel) rfl)) (T := TX9) (N := 10) rfl (by decide) (by decide +kernel)
  · cases h2
theorem bj_X9_go (l : Launch) : ex_ok l 2 46 bx_X9_go := ⟨ec_fok fo_X9, ec_cok co_X9, so_X9, bk_X9_go l, fun _ h => (by cases h), fun _ h => (by cases h), fun _ h => (by cases h), fun _ _ h => (by cases h)⟩
theorem bm_X9_go (l : Launch) : ex_Met l yX9_go cX9_go 3 (some .int) 2 46 (ab_sp ab_hd bc_X9_go) := ab_met (by decide) (by decide) rfl (bj_X9_go l) bd_X9_go ab_hcm ab_xk bz_X9_go
theorem bw_X9_doing : ec_cw yX9_doing cX9_doing 3 (some .int) := ⟨ec_in (i := 535) (by decide +kernel) rfl, ec_in (i := 58) (by decide +kernel) rfl, by decide, by decide⟩
theorem bv_X9_doing : Cond.instanceMethod yX9_doing ∈ ec_tb ∧ Cond.selects yX9_doing.cls yX9_doing yX9_doing ∈ ec_tb := ⟨ec_in (i := 533) (by decide +kernel) rfl, ec_in (i := 534) (by decide +kernel) rfl⟩
theorem bk_X9_doing (l : Launch) : ∀ (ix n : Nat) (rc : Option Nat) (sp : ex_S), (be_X9_doing ix).map (fun q => (q.1, q.2.1, ab_sp ab_hd q.2.2)) = some (n, rc, sp) → ex_cok l RX9 2 44 ix n rc sp := by
  intro ix n rc sp h
  obtain ⟨l0, h2, rfl⟩ := ab_dmk h
  clear h
  unfold be_X9_doing at h2
  split at h2
  · cases h2; exact ec_cV (bm_X3_setDoing l) bw_X3_setDoing bv_X3_setDoing (by decide) (by decide) (Or.inl (ec_in (i := 536) (by decide +kernel) rfl)) (T := TX3) (N := 7) rfl (by decide) (by decide +kernel)
  · cases h2; exact ec_cV (bm_X9_counted l) bw_X9_counted bv_X9_counted (by decide) (by decide) (Or.inl (ec_in (i := 424) (by decide +kernel) rfl)) (T := TX9) (N := 10) rfl (by decide) (by decide +kernel)
  · cases h2
theorem bj_X9_doing (l : Launch) : ex_ok l 2 44 bx_X9_doing := ⟨ec_fok fo_X9, ec_cok co_X9, so_X9, bk_X9_doing l, fun _ h => (by cases h), fun _ h => (by cases h), fun _ h => (by cases h), fun _ _ h => (by cases h)⟩
theorem bm_X9_doing (l : Launch) : ex_Met l yX9_doing cX9_doing 3 (some .int) 2 44 (ab_sp ab_hd bc_X9_doing) := ab_met (by decide) (by decide) rfl (bj_X9_doing l) bd_X9_doing ab_hcm ab_xk bz_X9_doing
theorem bw_X9_about : ec_cw yX9_about cX9_about 3 (some .int) := ⟨ec_in (i := 547) (by decide +kernel) rfl, ec_in (i := 58) (by decide +kernel) rfl, by decide, by decide⟩
theorem bv_X9_about : Cond.instanceMethod yX9_about ∈ ec_tb ∧ Cond.selects yX9_about.cls yX9_about yX9_about ∈ ec_tb := ⟨ec_in (i := 545) (by decide +kernel) rfl, ec_in (i := 546) (by decide +kernel) rfl⟩
theorem bk_X9_about (l : Launch) : ∀ (ix n : Nat) (rc : Option Nat) (sp : ex_S), (be_X9_about ix).map (fun q => (q.1, q.2.1, ab_sp ab_hd q.2.2)) = some (n, rc, sp) → ex_cok l RX9 2 43 ix n rc sp := by
  intro ix n rc sp h
  obtain ⟨l0, h2, rfl⟩ := ab_dmk h
  clear h
  unfold be_X9_about at h2
  split at h2
  · cases h2; exact ec_cV (bm_X3_tellOf l) bw_X3_tellOf bv_X3_tellOf (by decide) (by decide) (Or.inl (ec_in (i := 548) (by decide +kernel) rfl)) (T := TX3) (N := 7) rfl (by decide) (by decide +kernel)
  · cases h2; exact ec_cV (bm_X9_counted l) bw_X9_counted bv_X9_counted (by decide) (by decide) (Or.inl (ec_in (i := 424) (by decide +kernel) rfl)) (T := TX9) (N := 10) rfl (by decide) (by decide +kernel)
  · cases h2
theorem bj_X9_about (l : Launch) : ex_ok l 2 43 bx_X9_about := ⟨ec_fok fo_X9, ec_cok co_X9, so_X9, bk_X9_about l, fun _ h => (by cases h), fun _ h => (by cases h), fun _ h => (by cases h), fun _ _ h => (by cases h)⟩
theorem bm_X9_about (l : Launch) : ex_Met l yX9_about cX9_about 3 (some .int) 2 43 (ab_sp ab_hd bc_X9_about) := ab_met (by decide) (by decide) rfl (bj_X9_about l) bd_X9_about ab_hcm ab_xk bz_X9_about
theorem bw_X9_machine : ec_cw yX9_machine cX9_machine 5 (some .int) := ⟨ec_in (i := 555) (by decide +kernel) rfl, ec_in (i := 58) (by decide +kernel) rfl, by decide, by decide⟩
theorem bv_X9_machine : Cond.instanceMethod yX9_machine ∈ ec_tb ∧ Cond.selects yX9_machine.cls yX9_machine yX9_machine ∈ ec_tb := ⟨ec_in (i := 553) (by decide +kernel) rfl, ec_in (i := 554) (by decide +kernel) rfl⟩
theorem bk_X9_machine (l : Launch) : ∀ (ix n : Nat) (rc : Option Nat) (sp : ex_S), (be_X9_machine ix).map (fun q => (q.1, q.2.1, ab_sp ab_hd q.2.2)) = some (n, rc, sp) → ex_cok l RX9 2 45 ix n rc sp := by
  intro ix n rc sp h
  obtain ⟨l0, h2, rfl⟩ := ab_dmk h
  clear h
  unfold be_X9_machine at h2
  split at h2
  · cases h2; exact ec_cV (bm_X0_hasModule l) bw_X0_hasModule bv_X0_hasModule (by decide) (by decide) (Or.inl (ec_in (i := 502) (by decide +kernel) rfl)) (T := TX0) (N := 8) rfl (by decide) (by decide +kernel)
  · cases h2; exact ec_cV (bm_X9_counted l) bw_X9_counted bv_X9_counted (by decide) (by decide) (Or.inl (ec_in (i := 424) (by decide +kernel) rfl)) (T := TX9) (N := 10) rfl (by decide) (by decide +kernel)
  · cases h2; exact ec_cV (bm_X6_addMachine l) bw_X6_addMachine bv_X6_addMachine (by decide) (by decide) (Or.inl (ec_in (i := 556) (by decide +kernel) rfl)) (T := TX6) (N := 15) rfl (by decide) (by decide +kernel)
  · cases h2
theorem bj_X9_machine (l : Launch) : ex_ok l 2 45 bx_X9_machine := ⟨ec_fok fo_X9, ec_cok co_X9, so_X9, bk_X9_machine l, fun _ h => (by cases h), fun _ h => (by cases h), fun _ h => (by cases h), fun _ _ h => (by cases h)⟩
theorem bm_X9_machine (l : Launch) : ex_Met l yX9_machine cX9_machine 5 (some .int) 2 45 (ab_sp ab_hd bc_X9_machine) := ab_met (by decide) (by decide) rfl (bj_X9_machine l) bd_X9_machine ab_hcm ab_xk bz_X9_machine
theorem bw_X9_as : ec_cw yX9_as cX9_as 3 (some .int) := ⟨ec_in (i := 572) (by decide +kernel) rfl, ec_in (i := 58) (by decide +kernel) rfl, by decide, by decide⟩
theorem bv_X9_as : Cond.instanceMethod yX9_as ∈ ec_tb ∧ Cond.selects yX9_as.cls yX9_as yX9_as ∈ ec_tb := ⟨ec_in (i := 570) (by decide +kernel) rfl, ec_in (i := 571) (by decide +kernel) rfl⟩
theorem bk_X9_as (l : Launch) : ∀ (ix n : Nat) (rc : Option Nat) (sp : ex_S), (be_X9_as ix).map (fun q => (q.1, q.2.1, ab_sp ab_hd q.2.2)) = some (n, rc, sp) → ex_cok l RX9 3 65 ix n rc sp := by
  intro ix n rc sp h
  obtain ⟨l0, h2, rfl⟩ := ab_dmk h
  clear h
  unfold be_X9_as at h2
  split at h2
  · cases h2; exact ec_cV (bm_X6_rateAs l) bw_X6_rateAs bv_X6_rateAs (by decide) (by decide) (Or.inl (ec_in (i := 573) (by decide +kernel) rfl)) (T := TX6) (N := 15) rfl (by decide) (by decide +kernel)
  · cases h2; exact ec_cV (bm_X9_counted l) bw_X9_counted bv_X9_counted (by decide) (by decide) (Or.inl (ec_in (i := 424) (by decide +kernel) rfl)) (T := TX9) (N := 10) rfl (by decide) (by decide +kernel)
  · cases h2
theorem bj_X9_as (l : Launch) : ex_ok l 3 65 bx_X9_as := ⟨ec_fok fo_X9, ec_cok co_X9, so_X9, bk_X9_as l, fun _ h => (by cases h), fun _ h => (by cases h), fun _ h => (by cases h), fun _ _ h => (by cases h)⟩
theorem bm_X9_as (l : Launch) : ex_Met l yX9_as cX9_as 3 (some .int) 3 65 (ab_sp ab_hd bc_X9_as) := ab_met (by decide) (by decide) rfl (bj_X9_as l) bd_X9_as ab_hcm ab_xk bz_X9_as
theorem bw_X9_turn : ec_cw yX9_turn cX9_turn 3 (some .int) := ⟨ec_in (i := 590) (by decide +kernel) rfl, ec_in (i := 58) (by decide +kernel) rfl, by decide, by decide⟩
theorem bv_X9_turn : Cond.instanceMethod yX9_turn ∈ ec_tb ∧ Cond.selects yX9_turn.cls yX9_turn yX9_turn ∈ ec_tb := ⟨ec_in (i := 588) (by decide +kernel) rfl, ec_in (i := 589) (by decide +kernel) rfl⟩
theorem bk_X9_turn (l : Launch) : ∀ (ix n : Nat) (rc : Option Nat) (sp : ex_S), (be_X9_turn ix).map (fun q => (q.1, q.2.1, ab_sp ab_hd q.2.2)) = some (n, rc, sp) → ex_cok l RX9 2 44 ix n rc sp := by
  intro ix n rc sp h
  obtain ⟨l0, h2, rfl⟩ := ab_dmk h
  clear h
  unfold be_X9_turn at h2
  split at h2
  · cases h2; exact ec_cV (bm_X6_setOn l) bw_X6_setOn bv_X6_setOn (by decide) (by decide) (Or.inl (ec_in (i := 591) (by decide +kernel) rfl)) (T := TX6) (N := 15) rfl (by decide) (by decide +kernel)
  · cases h2; exact ec_cV (bm_X9_counted l) bw_X9_counted bv_X9_counted (by decide) (by decide) (Or.inl (ec_in (i := 424) (by decide +kernel) rfl)) (T := TX9) (N := 10) rfl (by decide) (by decide +kernel)
  · cases h2
theorem bj_X9_turn (l : Launch) : ex_ok l 2 44 bx_X9_turn := ⟨ec_fok fo_X9, ec_cok co_X9, so_X9, bk_X9_turn l, fun _ h => (by cases h), fun _ h => (by cases h), fun _ h => (by cases h), fun _ _ h => (by cases h)⟩
theorem bm_X9_turn (l : Launch) : ex_Met l yX9_turn cX9_turn 3 (some .int) 2 44 (ab_sp ab_hd bc_X9_turn) := ab_met (by decide) (by decide) rfl (bj_X9_turn l) bd_X9_turn ab_hcm ab_xk bz_X9_turn
theorem bw_X9_of : ec_cw yX9_of cX9_of 3 (some .int) := ⟨ec_in (i := 600) (by decide +kernel) rfl, ec_in (i := 58) (by decide +kernel) rfl, by decide, by decide⟩
theorem bv_X9_of : Cond.instanceMethod yX9_of ∈ ec_tb ∧ Cond.selects yX9_of.cls yX9_of yX9_of ∈ ec_tb := ⟨ec_in (i := 598) (by decide +kernel) rfl, ec_in (i := 599) (by decide +kernel) rfl⟩
theorem bk_X9_of (l : Launch) : ∀ (ix n : Nat) (rc : Option Nat) (sp : ex_S), (be_X9_of ix).map (fun q => (q.1, q.2.1, ab_sp ab_hd q.2.2)) = some (n, rc, sp) → ex_cok l RX9 2 43 ix n rc sp := by
  intro ix n rc sp h
  obtain ⟨l0, h2, rfl⟩ := ab_dmk h
  clear h
  unfold be_X9_of at h2
  split at h2
  · cases h2; exact ec_cV (bm_X6_tellOf l) bw_X6_tellOf bv_X6_tellOf (by decide) (by decide) (Or.inl (ec_in (i := 601) (by decide +kernel) rfl)) (T := TX6) (N := 15) rfl (by decide) (by decide +kernel)
  · cases h2; exact ec_cV (bm_X9_counted l) bw_X9_counted bv_X9_counted (by decide) (by decide) (Or.inl (ec_in (i := 424) (by decide +kernel) rfl)) (T := TX9) (N := 10) rfl (by decide) (by decide +kernel)
  · cases h2
theorem bj_X9_of (l : Launch) : ex_ok l 2 43 bx_X9_of := ⟨ec_fok fo_X9, ec_cok co_X9, so_X9, bk_X9_of l, fun _ h => (by cases h), fun _ h => (by cases h), fun _ h => (by cases h), fun _ _ h => (by cases h)⟩
theorem bm_X9_of (l : Launch) : ex_Met l yX9_of cX9_of 3 (some .int) 2 43 (ab_sp ab_hd bc_X9_of) := ab_met (by decide) (by decide) rfl (bj_X9_of l) bd_X9_of ab_hcm ab_xk bz_X9_of
theorem bw_X9_spares : ec_cw yX9_spares cX9_spares 3 (some .int) := ⟨ec_in (i := 608) (by decide +kernel) rfl, ec_in (i := 58) (by decide +kernel) rfl, by decide, by decide⟩
theorem bv_X9_spares : Cond.instanceMethod yX9_spares ∈ ec_tb ∧ Cond.selects yX9_spares.cls yX9_spares yX9_spares ∈ ec_tb := ⟨ec_in (i := 606) (by decide +kernel) rfl, ec_in (i := 607) (by decide +kernel) rfl⟩
theorem bk_X9_spares (l : Launch) : ∀ (ix n : Nat) (rc : Option Nat) (sp : ex_S), (be_X9_spares ix).map (fun q => (q.1, q.2.1, ab_sp ab_hd q.2.2)) = some (n, rc, sp) → ex_cok l RX9 2 43 ix n rc sp := by
  intro ix n rc sp h
  obtain ⟨l0, h2, rfl⟩ := ab_dmk h
  clear h
  unfold be_X9_spares at h2
  split at h2
  · cases h2; exact ec_cV (bm_X6_setSpares l) bw_X6_setSpares bv_X6_setSpares (by decide) (by decide) (Or.inl (ec_in (i := 609) (by decide +kernel) rfl)) (T := TX6) (N := 15) rfl (by decide) (by decide +kernel)
  · cases h2; exact ec_cV (bm_X9_counted l) bw_X9_counted bv_X9_counted (by decide) (by decide) (Or.inl (ec_in (i := 424) (by decide +kernel) rfl)) (T := TX9) (N := 10) rfl (by decide) (by decide +kernel)
  · cases h2
theorem bj_X9_spares (l : Launch) : ex_ok l 2 43 bx_X9_spares := ⟨ec_fok fo_X9, ec_cok co_X9, so_X9, bk_X9_spares l, fun _ h => (by cases h), fun _ h => (by cases h), fun _ h => (by cases h), fun _ _ h => (by cases h)⟩
theorem bm_X9_spares (l : Launch) : ex_Met l yX9_spares cX9_spares 3 (some .int) 2 43 (ab_sp ab_hd bc_X9_spares) := ab_met (by decide) (by decide) rfl (bj_X9_spares l) bd_X9_spares ab_hcm ab_xk bz_X9_spares
theorem bw_X9_repair : ec_cw yX9_repair cX9_repair 4 (some .int) := ⟨ec_in (i := 616) (by decide +kernel) rfl, ec_in (i := 58) (by decide +kernel) rfl, by decide, by decide⟩
theorem bv_X9_repair : Cond.instanceMethod yX9_repair ∈ ec_tb ∧ Cond.selects yX9_repair.cls yX9_repair yX9_repair ∈ ec_tb := ⟨ec_in (i := 614) (by decide +kernel) rfl, ec_in (i := 615) (by decide +kernel) rfl⟩
theorem bk_X9_repair (l : Launch) : ∀ (ix n : Nat) (rc : Option Nat) (sp : ex_S), (be_X9_repair ix).map (fun q => (q.1, q.2.1, ab_sp ab_hd q.2.2)) = some (n, rc, sp) → ex_cok l RX9 2 47 ix n rc sp := by
  intro ix n rc sp h
  obtain ⟨l0, h2, rfl⟩ := ab_dmk h
  clear h
  unfold be_X9_repair at h2
  split at h2
  · cases h2; exact ec_cV (bm_X8_mend l) bw_X8_mend bv_X8_mend (by decide) (by decide) (Or.inl (ec_in (i := 617) (by decide +kernel) rfl)) (T := TX8) (N := 7) rfl (by decide) (by decide +kernel)
  · cases h2; exact ec_cV (bm_X9_counted l) bw_X9_counted bv_X9_counted (by decide) (by decide) (Or.inl (ec_in (i := 424) (by decide +kernel) rfl)) (T := TX9) (N := 10) rfl (by decide) (by decide +kernel)
  · cases h2
theorem bj_X9_repair (l : Launch) : ex_ok l 2 47 bx_X9_repair := ⟨ec_fok fo_X9, ec_cok co_X9, so_X9, bk_X9_repair l, fun _ h => (by cases h), fun _ h => (by cases h), fun _ h => (by cases h), fun _ _ h => (by cases h)⟩
theorem bm_X9_repair (l : Launch) : ex_Met l yX9_repair cX9_repair 4 (some .int) 2 47 (ab_sp ab_hd bc_X9_repair) := ab_met (by decide) (by decide) rfl (bj_X9_repair l) bd_X9_repair ab_hcm ab_xk bz_X9_repair
theorem bw_X9_shed : ec_cw yX9_shed cX9_shed 3 (some .int) := ⟨ec_in (i := 634) (by decide +kernel) rfl, ec_in (i := 58) (by decide +kernel) rfl, by decide, by decide⟩
theorem bv_X9_shed : Cond.instanceMethod yX9_shed ∈ ec_tb ∧ Cond.selects yX9_shed.cls yX9_shed yX9_shed ∈ ec_tb := ⟨ec_in (i := 632) (by decide +kernel) rfl, ec_in (i := 633) (by decide +kernel) rfl⟩
theorem bk_X9_shed (l : Launch) : ∀ (ix n : Nat) (rc : Option Nat) (sp : ex_S), (be_X9_shed ix).map (fun q => (q.1, q.2.1, ab_sp ab_hd q.2.2)) = some (n, rc, sp) → ex_cok l RX9 4 92 ix n rc sp := by
  intro ix n rc sp h
  obtain ⟨l0, h2, rfl⟩ := ab_dmk h
  clear h
  unfold be_X9_shed at h2
  split at h2
  · cases h2; exact ec_cV (bm_X6_shedding l) bw_X6_shedding bv_X6_shedding (by decide) (by decide) (Or.inl (ec_in (i := 635) (by decide +kernel) rfl)) (T := TX6) (N := 15) rfl (by decide) (by decide +kernel)
  · cases h2; exact ec_cV (bm_X9_counted l) bw_X9_counted bv_X9_counted (by decide) (by decide) (Or.inl (ec_in (i := 424) (by decide +kernel) rfl)) (T := TX9) (N := 10) rfl (by decide) (by decide +kernel)
  · cases h2
theorem bj_X9_shed (l : Launch) : ex_ok l 4 92 bx_X9_shed := ⟨ec_fok fo_X9, ec_cok co_X9, so_X9, bk_X9_shed l, fun _ h => (by cases h), fun _ h => (by cases h), fun _ h => (by cases h), fun _ _ h => (by cases h)⟩
theorem bm_X9_shed (l : Launch) : ex_Met l yX9_shed cX9_shed 3 (some .int) 4 92 (ab_sp ab_hd bc_X9_shed) := ab_met (by decide) (by decide) rfl (bj_X9_shed l) bd_X9_shed ab_hcm ab_xk bz_X9_shed
theorem bw_X9_sun : ec_cw yX9_sun cX9_sun 3 (some .int) := ⟨ec_in (i := 664) (by decide +kernel) rfl, ec_in (i := 58) (by decide +kernel) rfl, by decide, by decide⟩
theorem bv_X9_sun : Cond.instanceMethod yX9_sun ∈ ec_tb ∧ Cond.selects yX9_sun.cls yX9_sun yX9_sun ∈ ec_tb := ⟨ec_in (i := 662) (by decide +kernel) rfl, ec_in (i := 663) (by decide +kernel) rfl⟩
theorem bk_X9_sun (l : Launch) : ∀ (ix n : Nat) (rc : Option Nat) (sp : ex_S), (be_X9_sun ix).map (fun q => (q.1, q.2.1, ab_sp ab_hd q.2.2)) = some (n, rc, sp) → ex_cok l RX9 2 43 ix n rc sp := by
  intro ix n rc sp h
  obtain ⟨l0, h2, rfl⟩ := ab_dmk h
  clear h
  unfold be_X9_sun at h2
  split at h2
  · cases h2; exact ec_cV (bm_X6_setSun l) bw_X6_setSun bv_X6_setSun (by decide) (by decide) (Or.inl (ec_in (i := 665) (by decide +kernel) rfl)) (T := TX6) (N := 15) rfl (by decide) (by decide +kernel)
  · cases h2; exact ec_cV (bm_X9_counted l) bw_X9_counted bv_X9_counted (by decide) (by decide) (Or.inl (ec_in (i := 424) (by decide +kernel) rfl)) (T := TX9) (N := 10) rfl (by decide) (by decide +kernel)
  · cases h2
theorem bj_X9_sun (l : Launch) : ex_ok l 2 43 bx_X9_sun := ⟨ec_fok fo_X9, ec_cok co_X9, so_X9, bk_X9_sun l, fun _ h => (by cases h), fun _ h => (by cases h), fun _ h => (by cases h), fun _ _ h => (by cases h)⟩
theorem bm_X9_sun (l : Launch) : ex_Met l yX9_sun cX9_sun 3 (some .int) 2 43 (ab_sp ab_hd bc_X9_sun) := ab_met (by decide) (by decide) rfl (bj_X9_sun l) bd_X9_sun ab_hcm ab_xk bz_X9_sun
theorem bw_X9_battery : ec_cw yX9_battery cX9_battery 2 (some .int) := ⟨ec_in (i := 675) (by decide +kernel) rfl, ec_in (i := 58) (by decide +kernel) rfl, by decide, by decide⟩
theorem bv_X9_battery : Cond.instanceMethod yX9_battery ∈ ec_tb ∧ Cond.selects yX9_battery.cls yX9_battery yX9_battery ∈ ec_tb := ⟨ec_in (i := 673) (by decide +kernel) rfl, ec_in (i := 674) (by decide +kernel) rfl⟩
theorem bk_X9_battery (l : Launch) : ∀ (ix n : Nat) (rc : Option Nat) (sp : ex_S), (be_X9_battery ix).map (fun q => (q.1, q.2.1, ab_sp ab_hd q.2.2)) = some (n, rc, sp) → ex_cok l RX9 1 22 ix n rc sp := by
  intro ix n rc sp h
  obtain ⟨l0, h2, rfl⟩ := ab_dmk h
  clear h
  unfold be_X9_battery at h2
  split at h2
  · cases h2; exact ec_cV (bm_X6_setBattery l) bw_X6_setBattery bv_X6_setBattery (by decide) (by decide) (Or.inl (ec_in (i := 676) (by decide +kernel) rfl)) (T := TX6) (N := 15) rfl (by decide) (by decide +kernel)
  · cases h2; exact ec_cV (bm_X9_counted l) bw_X9_counted bv_X9_counted (by decide) (by decide) (Or.inl (ec_in (i := 424) (by decide +kernel) rfl)) (T := TX9) (N := 10) rfl (by decide) (by decide +kernel)
  · cases h2
theorem bj_X9_battery (l : Launch) : ex_ok l 1 22 bx_X9_battery := ⟨ec_fok fo_X9, ec_cok co_X9, so_X9, bk_X9_battery l, fun _ h => (by cases h), fun _ h => (by cases h), fun _ h => (by cases h), fun _ _ h => (by cases h)⟩
theorem bm_X9_battery (l : Launch) : ex_Met l yX9_battery cX9_battery 2 (some .int) 1 22 (ab_sp ab_hd bc_X9_battery) := ab_met (by decide) (by decide) rfl (bj_X9_battery l) bd_X9_battery ab_hcm ab_xk bz_X9_battery
theorem bw_X9_bounds : ec_cw yX9_bounds cX9_bounds 4 (some .int) := ⟨ec_in (i := 683) (by decide +kernel) rfl, ec_in (i := 58) (by decide +kernel) rfl, by decide, by decide⟩
theorem bv_X9_bounds : Cond.instanceMethod yX9_bounds ∈ ec_tb ∧ Cond.selects yX9_bounds.cls yX9_bounds yX9_bounds ∈ ec_tb := ⟨ec_in (i := 681) (by decide +kernel) rfl, ec_in (i := 682) (by decide +kernel) rfl⟩
theorem bk_X9_bounds (l : Launch) : ∀ (ix n : Nat) (rc : Option Nat) (sp : ex_S), (be_X9_bounds ix).map (fun q => (q.1, q.2.1, ab_sp ab_hd q.2.2)) = some (n, rc, sp) → ex_cok l RX9 2 43 ix n rc sp := by
  intro ix n rc sp h
  obtain ⟨l0, h2, rfl⟩ := ab_dmk h
  clear h
  unfold be_X9_bounds at h2
  split at h2
  · cases h2; exact ec_cV (bm_X1_setAll l) bw_X1_setAll bv_X1_setAll (by decide) (by decide) (Or.inl (ec_in (i := 684) (by decide +kernel) rfl)) (T := TX1) (N := 6) rfl (by decide) (by decide +kernel)
  · cases h2; exact ec_cV (bm_X9_counted l) bw_X9_counted bv_X9_counted (by decide) (by decide) (Or.inl (ec_in (i := 424) (by decide +kernel) rfl)) (T := TX9) (N := 10) rfl (by decide) (by decide +kernel)
  · cases h2
theorem bj_X9_bounds (l : Launch) : ex_ok l 2 43 bx_X9_bounds := ⟨ec_fok fo_X9, ec_cok co_X9, so_X9, bk_X9_bounds l, fun _ h => (by cases h), fun _ h => (by cases h), fun _ h => (by cases h), fun _ _ h => (by cases h)⟩
theorem bm_X9_bounds (l : Launch) : ex_Met l yX9_bounds cX9_bounds 4 (some .int) 2 43 (ab_sp ab_hd bc_X9_bounds) := ab_met (by decide) (by decide) rfl (bj_X9_bounds l) bd_X9_bounds ab_hcm ab_xk bz_X9_bounds
theorem bw_X9_ticks : ec_cw yX9_ticks cX9_ticks 3 (some .int) := ⟨ec_in (i := 696) (by decide +kernel) rfl, ec_in (i := 58) (by decide +kernel) rfl, by decide, by decide⟩
theorem bv_X9_ticks : Cond.instanceMethod yX9_ticks ∈ ec_tb ∧ Cond.selects yX9_ticks.cls yX9_ticks yX9_ticks ∈ ec_tb := ⟨ec_in (i := 694) (by decide +kernel) rfl, ec_in (i := 695) (by decide +kernel) rfl⟩
theorem bk_X9_ticks (l : Launch) : ∀ (ix n : Nat) (rc : Option Nat) (sp : ex_S), (be_X9_ticks ix).map (fun q => (q.1, q.2.1, ab_sp ab_hd q.2.2)) = some (n, rc, sp) → ex_cok l RX9 6 134 ix n rc sp := by
  intro ix n rc sp h
  obtain ⟨l0, h2, rfl⟩ := ab_dmk h
  clear h
  unfold be_X9_ticks at h2
  split at h2
  · cases h2; exact ec_cV (bm_X9_counted l) bw_X9_counted bv_X9_counted (by decide) (by decide) (Or.inl (ec_in (i := 424) (by decide +kernel) rfl)) (T := TX9) (N := 10) rfl (by decide) (by decide +kernel)
  · cases h2; exact ec_cV (bm_X8_passTick l) bw_X8_passTick bv_X8_passTick (by decide) (by decide) (Or.inl (ec_in (i := 698) (by decide +kernel) rfl)) (T := TX8) (N := 7) rfl (by decide) (by decide +kernel)
  · cases h2
theorem bj_X9_ticks (l : Launch) : ex_ok l 6 134 bx_X9_ticks := ⟨ec_fok fo_X9, ec_cok co_X9, so_X9, bk_X9_ticks l, fun _ h => (by cases h), fun _ h => (by cases h), fun _ h => (by cases h), fun _ _ h => (by cases h)⟩
theorem bm_X9_ticks (l : Launch) : ex_Met l yX9_ticks cX9_ticks 3 (some .int) 6 134 (ab_sp ab_hd bc_X9_ticks) := ab_met (by decide) (by decide) rfl (bj_X9_ticks l) bd_X9_ticks ab_hcm ab_xk bz_X9_ticks
theorem bw_X9_broke : ec_cw yX9_broke cX9_broke 2 (some .int) := ⟨ec_in (i := 854) (by decide +kernel) rfl, ec_in (i := 58) (by decide +kernel) rfl, by decide, by decide⟩
theorem bv_X9_broke : Cond.instanceMethod yX9_broke ∈ ec_tb ∧ Cond.selects yX9_broke.cls yX9_broke yX9_broke ∈ ec_tb := ⟨ec_in (i := 852) (by decide +kernel) rfl, ec_in (i := 853) (by decide +kernel) rfl⟩
theorem bk_X9_broke (l : Launch) : ∀ (ix n : Nat) (rc : Option Nat) (sp : ex_S), (be_X9_broke ix).map (fun q => (q.1, q.2.1, ab_sp ab_hd q.2.2)) = some (n, rc, sp) → ex_cok l RX9 1 21 ix n rc sp := by
  intro ix n rc sp h
  obtain ⟨l0, h2, rfl⟩ := ab_dmk h
  clear h
  unfold be_X9_broke at h2
  split at h2
  · cases h2; exact ec_cV (bm_X1_tellFirstBreak l) bw_X1_tellFirstBreak bv_X1_tellFirstBreak (by decide) (by decide) (Or.inl (ec_in (i := 855) (by decide +kernel) rfl)) (T := TX1) (N := 6) rfl (by decide) (by decide +kernel)
  · cases h2; exact ec_cV (bm_X9_counted l) bw_X9_counted bv_X9_counted (by decide) (by decide) (Or.inl (ec_in (i := 424) (by decide +kernel) rfl)) (T := TX9) (N := 10) rfl (by decide) (by decide +kernel)
  · cases h2
theorem bj_X9_broke (l : Launch) : ex_ok l 1 21 bx_X9_broke := ⟨ec_fok fo_X9, ec_cok co_X9, so_X9, bk_X9_broke l, fun _ h => (by cases h), fun _ h => (by cases h), fun _ h => (by cases h), fun _ _ h => (by cases h)⟩
theorem bm_X9_broke (l : Launch) : ex_Met l yX9_broke cX9_broke 2 (some .int) 1 21 (ab_sp ab_hd bc_X9_broke) := ab_met (by decide) (by decide) rfl (bj_X9_broke l) bd_X9_broke ab_hcm ab_xk bz_X9_broke
theorem bw_X9_ahead : ec_cw yX9_ahead cX9_ahead 3 (some .int) := ⟨ec_in (i := 863) (by decide +kernel) rfl, ec_in (i := 58) (by decide +kernel) rfl, by decide, by decide⟩
theorem bv_X9_ahead : Cond.instanceMethod yX9_ahead ∈ ec_tb ∧ Cond.selects yX9_ahead.cls yX9_ahead yX9_ahead ∈ ec_tb := ⟨ec_in (i := 861) (by decide +kernel) rfl, ec_in (i := 862) (by decide +kernel) rfl⟩
theorem bk_X9_ahead (l : Launch) : ∀ (ix n : Nat) (rc : Option Nat) (sp : ex_S), (be_X9_ahead ix).map (fun q => (q.1, q.2.1, ab_sp ab_hd q.2.2)) = some (n, rc, sp) → ex_cok l RX9 6 134 ix n rc sp := by
  intro ix n rc sp h
  obtain ⟨l0, h2, rfl⟩ := ab_dmk h
  clear h
  unfold be_X9_ahead at h2
  split at h2
  · cases h2; exact ec_cV (bm_X9_counted l) bw_X9_counted bv_X9_counted (by decide) (by decide) (Or.inl (ec_in (i := 424) (by decide +kernel) rfl)) (T := TX9) (N := 10) rfl (by decide) (by decide +kernel)
  · cases h2; exact ec_cV (bm_X8_becomeLike l) bw_X8_becomeLike bv_X8_becomeLike (by decide) (by decide) (Or.inl (ec_in (i := 864) (by decide +kernel) rfl)) (T := TX8) (N := 7) rfl (by decide) (by decide +kernel)
  · cases h2; exact ec_cV (bm_X8_passTick l) bw_X8_passTick bv_X8_passTick (by decide) (by decide) (Or.inl (ec_in (i := 698) (by decide +kernel) rfl)) (T := TX8) (N := 7) rfl (by decide) (by decide +kernel)
  · cases h2
theorem bj_X9_ahead (l : Launch) : ex_ok l 6 134 bx_X9_ahead := ⟨ec_fok fo_X9, ec_cok co_X9, so_X9, bk_X9_ahead l, fun _ h => (by cases h), fun _ h => (by cases h), fun _ h => (by cases h), fun _ _ h => (by cases h)⟩
theorem bm_X9_ahead (l : Launch) : ex_Met l yX9_ahead cX9_ahead 3 (some .int) 6 134 (ab_sp ab_hd bc_X9_ahead) := ab_met (by decide) (by decide) rfl (bj_X9_ahead l) bd_X9_ahead ab_hcm ab_xk bz_X9_ahead
theorem bw_X9_line : ec_cw yX9_line cX9_line 5 (some .int) := ⟨ec_in (i := 904) (by decide +kernel) rfl, ec_in (i := 58) (by decide +kernel) rfl, by decide, by decide⟩
theorem bv_X9_line : Cond.instanceMethod yX9_line ∈ ec_tb ∧ Cond.selects yX9_line.cls yX9_line yX9_line ∈ ec_tb := ⟨ec_in (i := 902) (by decide +kernel) rfl, ec_in (i := 903) (by decide +kernel) rfl⟩
theorem bk_X9_line (l : Launch) : ∀ (ix n : Nat) (rc : Option Nat) (sp : ex_S), (be_X9_line ix).map (fun q => (q.1, q.2.1, ab_sp ab_hd q.2.2)) = some (n, rc, sp) → ex_cok l RX9 1 24 ix n rc sp := by
  intro ix n rc sp h
  obtain ⟨l0, h2, rfl⟩ := ab_dmk h
  clear h
  unfold be_X9_line at h2
  split at h2
  · cases h2; exact ec_cV (bm_X9_counted l) bw_X9_counted bv_X9_counted (by decide) (by decide) (Or.inl (ec_in (i := 424) (by decide +kernel) rfl)) (T := TX9) (N := 10) rfl (by decide) (by decide +kernel)
  · cases h2; exact ec_cV (bm_X7_addLine l) bw_X7_addLine bv_X7_addLine (by decide) (by decide) (Or.inl (ec_in (i := 906) (by decide +kernel) rfl)) (T := TX7) (N := 5) rfl (by decide) (by decide +kernel)
  · cases h2
theorem bj_X9_line (l : Launch) : ex_ok l 1 24 bx_X9_line := ⟨ec_fok fo_X9, ec_cok co_X9, so_X9, bk_X9_line l, fun _ h => (by cases h), fun _ h => (by cases h), fun _ h => (by cases h), fun _ _ h => (by cases h)⟩
theorem bm_X9_line (l : Launch) : ex_Met l yX9_line cX9_line 5 (some .int) 1 24 (ab_sp ab_hd bc_X9_line) := ab_met (by decide) (by decide) rfl (bj_X9_line l) bd_X9_line ab_hcm ab_xk bz_X9_line
theorem bw_X9_erase : ec_cw yX9_erase cX9_erase 2 (some .int) := ⟨ec_in (i := 914) (by decide +kernel) rfl, ec_in (i := 58) (by decide +kernel) rfl, by decide, by decide⟩
theorem bv_X9_erase : Cond.instanceMethod yX9_erase ∈ ec_tb ∧ Cond.selects yX9_erase.cls yX9_erase yX9_erase ∈ ec_tb := ⟨ec_in (i := 912) (by decide +kernel) rfl, ec_in (i := 913) (by decide +kernel) rfl⟩
theorem bk_X9_erase (l : Launch) : ∀ (ix n : Nat) (rc : Option Nat) (sp : ex_S), (be_X9_erase ix).map (fun q => (q.1, q.2.1, ab_sp ab_hd q.2.2)) = some (n, rc, sp) → ex_cok l RX9 1 21 ix n rc sp := by
  intro ix n rc sp h
  obtain ⟨l0, h2, rfl⟩ := ab_dmk h
  clear h
  unfold be_X9_erase at h2
  split at h2
  · cases h2; exact ec_cV (bm_X9_counted l) bw_X9_counted bv_X9_counted (by decide) (by decide) (Or.inl (ec_in (i := 424) (by decide +kernel) rfl)) (T := TX9) (N := 10) rfl (by decide) (by decide +kernel)
  · cases h2
theorem bj_X9_erase (l : Launch) : ex_ok l 1 21 bx_X9_erase := ⟨ec_fok fo_X9, ec_cok co_X9, so_X9, bk_X9_erase l, fun _ h => (by cases h), fun _ h => (by cases h), fun _ h => (by cases h), fun _ _ h => (by cases h)⟩
theorem bm_X9_erase (l : Launch) : ex_Met l yX9_erase cX9_erase 2 (some .int) 1 21 (ab_sp ab_hd bc_X9_erase) := ab_met (by decide) (by decide) rfl (bj_X9_erase l) bd_X9_erase ab_hcm ab_xk bz_X9_erase
theorem bw_X9_begin : ec_cw yX9_begin cX9_begin 1 (some .int) := ⟨ec_in (i := 918) (by decide +kernel) rfl, ec_in (i := 58) (by decide +kernel) rfl, by decide, by decide⟩
theorem bv_X9_begin : Cond.instanceMethod yX9_begin ∈ ec_tb ∧ Cond.selects yX9_begin.cls yX9_begin yX9_begin ∈ ec_tb := ⟨ec_in (i := 916) (by decide +kernel) rfl, ec_in (i := 917) (by decide +kernel) rfl⟩
theorem bk_X9_begin (l : Launch) : ∀ (ix n : Nat) (rc : Option Nat) (sp : ex_S), (be_X9_begin ix).map (fun q => (q.1, q.2.1, ab_sp ab_hd q.2.2)) = some (n, rc, sp) → ex_cok l RX9 1 21 ix n rc sp := by
  intro ix n rc sp h
  obtain ⟨l0, h2, rfl⟩ := ab_dmk h
  clear h
  unfold be_X9_begin at h2
  split at h2
  · cases h2; exact ec_cV (bm_X9_counted l) bw_X9_counted bv_X9_counted (by decide) (by decide) (Or.inl (ec_in (i := 424) (by decide +kernel) rfl)) (T := TX9) (N := 10) rfl (by decide) (by decide +kernel)
  · cases h2; exact ec_cV (bm_X2_start l) bw_X2_start bv_X2_start (by decide) (by decide) (Or.inl (ec_in (i := 919) (by decide +kernel) rfl)) (T := TX2) (N := 7) rfl (by decide) (by decide +kernel)
  · cases h2
theorem bj_X9_begin (l : Launch) : ex_ok l 1 21 bx_X9_begin := ⟨ec_fok fo_X9, ec_cok co_X9, so_X9, bk_X9_begin l, fun _ h => (by cases h), fun _ h => (by cases h), fun _ h => (by cases h), fun _ _ h => (by cases h)⟩
theorem bm_X9_begin (l : Launch) : ex_Met l yX9_begin cX9_begin 1 (some .int) 1 21 (ab_sp ab_hd bc_X9_begin) := ab_met (by decide) (by decide) rfl (bj_X9_begin l) bd_X9_begin ab_hcm ab_xk bz_X9_begin
theorem bw_X9_halt : ec_cw yX9_halt cX9_halt 2 (some .int) := ⟨ec_in (i := 926) (by decide +kernel) rfl, ec_in (i := 58) (by decide +kernel) rfl, by decide, by decide⟩
theorem bv_X9_halt : Cond.instanceMethod yX9_halt ∈ ec_tb ∧ Cond.selects yX9_halt.cls yX9_halt yX9_halt ∈ ec_tb := ⟨ec_in (i := 924) (by decide +kernel) rfl, ec_in (i := 925) (by decide +kernel) rfl⟩
theorem bk_X9_halt (l : Launch) : ∀ (ix n : Nat) (rc : Option Nat) (sp : ex_S), (be_X9_halt ix).map (fun q => (q.1, q.2.1, ab_sp ab_hd q.2.2)) = some (n, rc, sp) → ex_cok l RX9 2 41 ix n rc sp := by
  intro ix n rc sp h
  obtain ⟨l0, h2, rfl⟩ := ab_dmk h
  clear h
  unfold be_X9_halt at h2
  split at h2
  · cases h2; exact ec_cV (bm_X2_setHalted l) bw_X2_setHalted bv_X2_setHalted (by decide) (by decide) (Or.inl (ec_in (i := 927) (by decide +kernel) rfl)) (T := TX2) (N := 7) rfl (by decide) (by decide +kernel)
  · cases h2; exact ec_cV (bm_X9_counted l) bw_X9_counted bv_X9_counted (by decide) (by decide) (Or.inl (ec_in (i := 424) (by decide +kernel) rfl)) (T := TX9) (N := 10) rfl (by decide) (by decide +kernel)
  · cases h2
theorem bj_X9_halt (l : Launch) : ex_ok l 2 41 bx_X9_halt := ⟨ec_fok fo_X9, ec_cok co_X9, so_X9, bk_X9_halt l, fun _ h => (by cases h), fun _ h => (by cases h), fun _ h => (by cases h), fun _ _ h => (by cases h)⟩
theorem bm_X9_halt (l : Launch) : ex_Met l yX9_halt cX9_halt 2 (some .int) 2 41 (ab_sp ab_hd bc_X9_halt) := ab_met (by decide) (by decide) rfl (bj_X9_halt l) bd_X9_halt ab_hcm ab_xk bz_X9_halt
theorem bw_X9_abort : ec_cw yX9_abort cX9_abort 1 (some .int) := ⟨ec_in (i := 937) (by decide +kernel) rfl, ec_in (i := 58) (by decide +kernel) rfl, by decide, by decide⟩
theorem bv_X9_abort : Cond.instanceMethod yX9_abort ∈ ec_tb ∧ Cond.selects yX9_abort.cls yX9_abort yX9_abort ∈ ec_tb := ⟨ec_in (i := 935) (by decide +kernel) rfl, ec_in (i := 936) (by decide +kernel) rfl⟩
theorem bk_X9_abort (l : Launch) : ∀ (ix n : Nat) (rc : Option Nat) (sp : ex_S), (be_X9_abort ix).map (fun q => (q.1, q.2.1, ab_sp ab_hd q.2.2)) = some (n, rc, sp) → ex_cok l RX9 2 41 ix n rc sp := by
  intro ix n rc sp h
  obtain ⟨l0, h2, rfl⟩ := ab_dmk h
  clear h
  unfold be_X9_abort at h2
  split at h2
  · cases h2; exact ec_cV (bm_X9_counted l) bw_X9_counted bv_X9_counted (by decide) (by decide) (Or.inl (ec_in (i := 424) (by decide +kernel) rfl)) (T := TX9) (N := 10) rfl (by decide) (by decide +kernel)
  · cases h2; exact ec_cV (bm_X2_giveUp l) bw_X2_giveUp bv_X2_giveUp (by decide) (by decide) (Or.inl (ec_in (i := 938) (by decide +kernel) rfl)) (T := TX2) (N := 7) rfl (by decide) (by decide +kernel)
  · cases h2; exact ec_cS (bm_X9_one l) bw_X9_one bv_X9_one (by decide) (by decide) (Or.inl (ec_in (i := 939) (by decide +kernel) rfl)) (by decide +kernel)
  · cases h2
theorem bj_X9_abort (l : Launch) : ex_ok l 2 41 bx_X9_abort := ⟨ec_fok fo_X9, ec_cok co_X9, so_X9, bk_X9_abort l, fun _ h => (by cases h), fun _ h => (by cases h), fun _ h => (by cases h), fun _ _ h => (by cases h)⟩
theorem bm_X9_abort (l : Launch) : ex_Met l yX9_abort cX9_abort 1 (some .int) 2 41 (ab_sp ab_hd bc_X9_abort) := ab_met (by decide) (by decide) rfl (bj_X9_abort l) bd_X9_abort ab_hcm ab_xk bz_X9_abort
theorem bw_X9_text : ec_cw yX9_text cX9_text 2 (some .int) := ⟨ec_in (i := 943) (by decide +kernel) rfl, ec_in (i := 58) (by decide +kernel) rfl, by decide, by decide⟩
theorem bv_X9_text : Cond.instanceMethod yX9_text ∈ ec_tb ∧ Cond.selects yX9_text.cls yX9_text yX9_text ∈ ec_tb := ⟨ec_in (i := 941) (by decide +kernel) rfl, ec_in (i := 942) (by decide +kernel) rfl⟩
theorem bk_X9_text (l : Launch) : ∀ (ix n : Nat) (rc : Option Nat) (sp : ex_S), (be_X9_text ix).map (fun q => (q.1, q.2.1, ab_sp ab_hd q.2.2)) = some (n, rc, sp) → ex_cok l RX9 2 41 ix n rc sp := by
  intro ix n rc sp h
  obtain ⟨l0, h2, rfl⟩ := ab_dmk h
  clear h
  unfold be_X9_text at h2
  split at h2
  · cases h2; exact ec_cV (bm_X2_tellOf l) bw_X2_tellOf bv_X2_tellOf (by decide) (by decide) (Or.inl (ec_in (i := 944) (by decide +kernel) rfl)) (T := TX2) (N := 7) rfl (by decide) (by decide +kernel)
  · cases h2; exact ec_cV (bm_X9_counted l) bw_X9_counted bv_X9_counted (by decide) (by decide) (Or.inl (ec_in (i := 424) (by decide +kernel) rfl)) (T := TX9) (N := 10) rfl (by decide) (by decide +kernel)
  · cases h2
theorem bj_X9_text (l : Launch) : ex_ok l 2 41 bx_X9_text := ⟨ec_fok fo_X9, ec_cok co_X9, so_X9, bk_X9_text l, fun _ h => (by cases h), fun _ h => (by cases h), fun _ h => (by cases h), fun _ _ h => (by cases h)⟩
theorem bm_X9_text (l : Launch) : ex_Met l yX9_text cX9_text 2 (some .int) 2 41 (ab_sp ab_hd bc_X9_text) := ab_met (by decide) (by decide) rfl (bj_X9_text l) bd_X9_text ab_hcm ab_xk bz_X9_text
theorem bw_X9_hunt : ec_cw yX9_hunt cX9_hunt 1 (some .int) := ⟨ec_in (i := 952) (by decide +kernel) rfl, ec_in (i := 58) (by decide +kernel) rfl, by decide, by decide⟩
theorem bv_X9_hunt : Cond.instanceMethod yX9_hunt ∈ ec_tb ∧ Cond.selects yX9_hunt.cls yX9_hunt yX9_hunt ∈ ec_tb := ⟨ec_in (i := 950) (by decide +kernel) rfl, ec_in (i := 951) (by decide +kernel) rfl⟩
theorem bk_X9_hunt (l : Launch) : ∀ (ix n : Nat) (rc : Option Nat) (sp : ex_S), (be_X9_hunt ix).map (fun q => (q.1, q.2.1, ab_sp ab_hd q.2.2)) = some (n, rc, sp) → ex_cok l RX9 1 21 ix n rc sp := by
  intro ix n rc sp h
  obtain ⟨l0, h2, rfl⟩ := ab_dmk h
  clear h
  unfold be_X9_hunt at h2
  split at h2
  · cases h2; exact ec_cV (bm_X4_startOver l) bw_X4_startOver bv_X4_startOver (by decide) (by decide) (Or.inl (ec_in (i := 953) (by decide +kernel) rfl)) (T := TX4) (N := 2) rfl (by decide) (by decide +kernel)
  · cases h2
theorem bj_X9_hunt (l : Launch) : ex_ok l 1 21 bx_X9_hunt := ⟨ec_fok fo_X9, ec_cok co_X9, so_X9, bk_X9_hunt l, fun _ h => (by cases h), fun _ h => (by cases h), fun _ h => (by cases h), fun _ _ h => (by cases h)⟩
theorem bm_X9_hunt (l : Launch) : ex_Met l yX9_hunt cX9_hunt 1 (some .int) 1 21 (ab_sp ab_hd bc_X9_hunt) := ab_met (by decide) (by decide) rfl (bj_X9_hunt l) bd_X9_hunt ab_hcm ab_xk bz_X9_hunt
theorem bw_X9_test : ec_cw yX9_test cX9_test 3 (some .int) := ⟨ec_in (i := 960) (by decide +kernel) rfl, ec_in (i := 58) (by decide +kernel) rfl, by decide, by decide⟩
theorem bv_X9_test : Cond.instanceMethod yX9_test ∈ ec_tb ∧ Cond.selects yX9_test.cls yX9_test yX9_test ∈ ec_tb := ⟨ec_in (i := 958) (by decide +kernel) rfl, ec_in (i := 959) (by decide +kernel) rfl⟩
theorem bk_X9_test (l : Launch) : ∀ (ix n : Nat) (rc : Option Nat) (sp : ex_S), (be_X9_test ix).map (fun q => (q.1, q.2.1, ab_sp ab_hd q.2.2)) = some (n, rc, sp) → ex_cok l RX9 3 70 ix n rc sp := by
  intro ix n rc sp h
  obtain ⟨l0, h2, rfl⟩ := ab_dmk h
  clear h
  unfold be_X9_test at h2
  split at h2
  · cases h2; exact ec_cV (bm_X4_narrow l) bw_X4_narrow bv_X4_narrow (by decide) (by decide) (Or.inl (ec_in (i := 961) (by decide +kernel) rfl)) (T := TX4) (N := 2) rfl (by decide) (by decide +kernel)
  · cases h2; exact ec_cV (bm_X9_counted l) bw_X9_counted bv_X9_counted (by decide) (by decide) (Or.inl (ec_in (i := 424) (by decide +kernel) rfl)) (T := TX9) (N := 10) rfl (by decide) (by decide +kernel)
  · cases h2
theorem bj_X9_test (l : Launch) : ex_ok l 3 70 bx_X9_test := ⟨ec_fok fo_X9, ec_cok co_X9, so_X9, bk_X9_test l, fun _ h => (by cases h), fun _ h => (by cases h), fun _ h => (by cases h), fun _ _ h => (by cases h)⟩
theorem bm_X9_test (l : Launch) : ex_Met l yX9_test cX9_test 3 (some .int) 3 70 (ab_sp ab_hd bc_X9_test) := ab_met (by decide) (by decide) rfl (bj_X9_test l) bd_X9_test ab_hcm ab_xk bz_X9_test
theorem bw_X9_best : ec_cw yX9_best cX9_best 2 (some .int) := ⟨ec_in (i := 979) (by decide +kernel) rfl, ec_in (i := 58) (by decide +kernel) rfl, by decide, by decide⟩
theorem bv_X9_best : Cond.instanceMethod yX9_best ∈ ec_tb ∧ Cond.selects yX9_best.cls yX9_best yX9_best ∈ ec_tb := ⟨ec_in (i := 977) (by decide +kernel) rfl, ec_in (i := 978) (by decide +kernel) rfl⟩
theorem bk_X9_best (l : Launch) : ∀ (ix n : Nat) (rc : Option Nat) (sp : ex_S), (be_X9_best ix).map (fun q => (q.1, q.2.1, ab_sp ab_hd q.2.2)) = some (n, rc, sp) → ex_cok l RX9 4 98 ix n rc sp := by
  intro ix n rc sp h
  obtain ⟨l0, h2, rfl⟩ := ab_dmk h
  clear h
  unfold be_X9_best at h2
  split at h2
  · cases h2; exact ec_cV (bm_X4_bestTest l) bw_X4_bestTest bv_X4_bestTest (by decide) (by decide) (Or.inl (ec_in (i := 980) (by decide +kernel) rfl)) (T := TX4) (N := 2) rfl (by decide) (by decide +kernel)
  · cases h2; exact ec_cV (bm_X9_counted l) bw_X9_counted bv_X9_counted (by decide) (by decide) (Or.inl (ec_in (i := 424) (by decide +kernel) rfl)) (T := TX9) (N := 10) rfl (by decide) (by decide +kernel)
  · cases h2
theorem bj_X9_best (l : Launch) : ex_ok l 4 98 bx_X9_best := ⟨ec_fok fo_X9, ec_cok co_X9, so_X9, bk_X9_best l, fun _ h => (by cases h), fun _ h => (by cases h), fun _ h => (by cases h), fun _ _ h => (by cases h)⟩
theorem bm_X9_best (l : Launch) : ex_Met l yX9_best cX9_best 2 (some .int) 4 98 (ab_sp ab_hd bc_X9_best) := ab_met (by decide) (by decide) rfl (bj_X9_best l) bd_X9_best ab_hcm ab_xk bz_X9_best
theorem bw_X9_suspects : ec_cw yX9_suspects cX9_suspects 1 (some .int) := ⟨ec_in (i := 995) (by decide +kernel) rfl, ec_in (i := 58) (by decide +kernel) rfl, by decide, by decide⟩
theorem bv_X9_suspects : Cond.instanceMethod yX9_suspects ∈ ec_tb ∧ Cond.selects yX9_suspects.cls yX9_suspects yX9_suspects ∈ ec_tb := ⟨ec_in (i := 993) (by decide +kernel) rfl, ec_in (i := 994) (by decide +kernel) rfl⟩
theorem bj_X9_suspects (l : Launch) : ex_ok l 0 0 bx_X9_suspects := ⟨ec_fok fo_X9, ec_cok co_X9, so_X9, fun _ _ _ _ h => (by cases h), fun _ h => (by cases h), fun _ h => (by cases h), fun _ h => (by cases h), fun _ _ h => (by cases h)⟩
theorem bm_X9_suspects (l : Launch) : ex_Met l yX9_suspects cX9_suspects 1 (some .int) 0 0 (ab_sp ab_hd bc_X9_suspects) := ab_met (by decide) (by decide) rfl (bj_X9_suspects l) bd_X9_suspects ab_hcm ab_xk bz_X9_suspects
theorem bw_X9_read : ec_cw yX9_read cX9_read 3 (some .int) := ⟨ec_in (i := 999) (by decide +kernel) rfl, ec_in (i := 58) (by decide +kernel) rfl, by decide, by decide⟩
theorem bv_X9_read : Cond.instanceMethod yX9_read ∈ ec_tb ∧ Cond.selects yX9_read.cls yX9_read yX9_read ∈ ec_tb := ⟨ec_in (i := 997) (by decide +kernel) rfl, ec_in (i := 998) (by decide +kernel) rfl⟩
theorem bk_X9_read (l : Launch) : ∀ (ix n : Nat) (rc : Option Nat) (sp : ex_S), (be_X9_read ix).map (fun q => (q.1, q.2.1, ab_sp ab_hd q.2.2)) = some (n, rc, sp) → ex_cok l RX9 2 43 ix n rc sp := by
  intro ix n rc sp h
  obtain ⟨l0, h2, rfl⟩ := ab_dmk h
  clear h
  unfold be_X9_read at h2
  split at h2
  · cases h2; exact ec_cV (bm_X5_addReading l) bw_X5_addReading bv_X5_addReading (by decide) (by decide) (Or.inl (ec_in (i := 1000) (by decide +kernel) rfl)) (T := TX5) (N := 10) rfl (by decide) (by decide +kernel)
  · cases h2; exact ec_cV (bm_X9_counted l) bw_X9_counted bv_X9_counted (by decide) (by decide) (Or.inl (ec_in (i := 424) (by decide +kernel) rfl)) (T := TX9) (N := 10) rfl (by decide) (by decide +kernel)
  · cases h2
theorem bj_X9_read (l : Launch) : ex_ok l 2 43 bx_X9_read := ⟨ec_fok fo_X9, ec_cok co_X9, so_X9, bk_X9_read l, fun _ h => (by cases h), fun _ h => (by cases h), fun _ h => (by cases h), fun _ _ h => (by cases h)⟩
theorem bm_X9_read (l : Launch) : ex_Met l yX9_read cX9_read 3 (some .int) 2 43 (ab_sp ab_hd bc_X9_read) := ab_met (by decide) (by decide) rfl (bj_X9_read l) bd_X9_read ab_hcm ab_xk bz_X9_read
theorem bw_X9_calibrate : ec_cw yX9_calibrate cX9_calibrate 3 (some .int) := ⟨ec_in (i := 1012) (by decide +kernel) rfl, ec_in (i := 58) (by decide +kernel) rfl, by decide, by decide⟩
theorem bv_X9_calibrate : Cond.instanceMethod yX9_calibrate ∈ ec_tb ∧ Cond.selects yX9_calibrate.cls yX9_calibrate yX9_calibrate ∈ ec_tb := ⟨ec_in (i := 1010) (by decide +kernel) rfl, ec_in (i := 1011) (by decide +kernel) rfl⟩
theorem bk_X9_calibrate (l : Launch) : ∀ (ix n : Nat) (rc : Option Nat) (sp : ex_S), (be_X9_calibrate ix).map (fun q => (q.1, q.2.1, ab_sp ab_hd q.2.2)) = some (n, rc, sp) → ex_cok l RX9 2 43 ix n rc sp := by
  intro ix n rc sp h
  obtain ⟨l0, h2, rfl⟩ := ab_dmk h
  clear h
  unfold be_X9_calibrate at h2
  split at h2
  · cases h2; exact ec_cV (bm_X5_addCalibration l) bw_X5_addCalibration bv_X5_addCalibration (by decide) (by decide) (Or.inl (ec_in (i := 1013) (by decide +kernel) rfl)) (T := TX5) (N := 10) rfl (by decide) (by decide +kernel)
  · cases h2; exact ec_cV (bm_X9_counted l) bw_X9_counted bv_X9_counted (by decide) (by decide) (Or.inl (ec_in (i := 424) (by decide +kernel) rfl)) (T := TX9) (N := 10) rfl (by decide) (by decide +kernel)
  · cases h2
theorem bj_X9_calibrate (l : Launch) : ex_ok l 2 43 bx_X9_calibrate := ⟨ec_fok fo_X9, ec_cok co_X9, so_X9, bk_X9_calibrate l, fun _ h => (by cases h), fun _ h => (by cases h), fun _ h => (by cases h), fun _ _ h => (by cases h)⟩
theorem bm_X9_calibrate (l : Launch) : ex_Met l yX9_calibrate cX9_calibrate 3 (some .int) 2 43 (ab_sp ab_hd bc_X9_calibrate) := ab_met (by decide) (by decide) rfl (bj_X9_calibrate l) bd_X9_calibrate ab_hcm ab_xk bz_X9_calibrate
theorem bw_X9_worked : ec_cw yX9_worked cX9_worked 2 (some .int) := ⟨ec_in (i := 1020) (by decide +kernel) rfl, ec_in (i := 58) (by decide +kernel) rfl, by decide, by decide⟩
theorem bv_X9_worked : Cond.instanceMethod yX9_worked ∈ ec_tb ∧ Cond.selects yX9_worked.cls yX9_worked yX9_worked ∈ ec_tb := ⟨ec_in (i := 1018) (by decide +kernel) rfl, ec_in (i := 1019) (by decide +kernel) rfl⟩
theorem bk_X9_worked (l : Launch) : ∀ (ix n : Nat) (rc : Option Nat) (sp : ex_S), (be_X9_worked ix).map (fun q => (q.1, q.2.1, ab_sp ab_hd q.2.2)) = some (n, rc, sp) → ex_cok l RX9 3 71 ix n rc sp := by
  intro ix n rc sp h
  obtain ⟨l0, h2, rfl⟩ := ab_dmk h
  clear h
  unfold be_X9_worked at h2
  split at h2
  · cases h2; exact ec_cV (bm_X5_workedBack l) bw_X5_workedBack bv_X5_workedBack (by decide) (by decide) (Or.inl (ec_in (i := 1021) (by decide +kernel) rfl)) (T := TX5) (N := 10) rfl (by decide) (by decide +kernel)
  · cases h2; exact ec_cV (bm_X9_counted l) bw_X9_counted bv_X9_counted (by decide) (by decide) (Or.inl (ec_in (i := 424) (by decide +kernel) rfl)) (T := TX9) (N := 10) rfl (by decide) (by decide +kernel)
  · cases h2
theorem bj_X9_worked (l : Launch) : ex_ok l 3 71 bx_X9_worked := ⟨ec_fok fo_X9, ec_cok co_X9, so_X9, bk_X9_worked l, fun _ h => (by cases h), fun _ h => (by cases h), fun _ h => (by cases h), fun _ _ h => (by cases h)⟩
theorem bm_X9_worked (l : Launch) : ex_Met l yX9_worked cX9_worked 2 (some .int) 3 71 (ab_sp ab_hd bc_X9_worked) := ab_met (by decide) (by decide) rfl (bj_X9_worked l) bd_X9_worked ab_hcm ab_xk bz_X9_worked
theorem bw_X9_delay : ec_cw yX9_delay cX9_delay 2 (some .int) := ⟨ec_in (i := 1036) (by decide +kernel) rfl, ec_in (i := 58) (by decide +kernel) rfl, by decide, by decide⟩
theorem bv_X9_delay : Cond.instanceMethod yX9_delay ∈ ec_tb ∧ Cond.selects yX9_delay.cls yX9_delay yX9_delay ∈ ec_tb := ⟨ec_in (i := 1034) (by decide +kernel) rfl, ec_in (i := 1035) (by decide +kernel) rfl⟩
theorem bk_X9_delay (l : Launch) : ∀ (ix n : Nat) (rc : Option Nat) (sp : ex_S), (be_X9_delay ix).map (fun q => (q.1, q.2.1, ab_sp ab_hd q.2.2)) = some (n, rc, sp) → ex_cok l RX9 1 22 ix n rc sp := by
  intro ix n rc sp h
  obtain ⟨l0, h2, rfl⟩ := ab_dmk h
  clear h
  unfold be_X9_delay at h2
  split at h2
  · cases h2; exact ec_cV (bm_X5_setDelay l) bw_X5_setDelay bv_X5_setDelay (by decide) (by decide) (Or.inl (ec_in (i := 1037) (by decide +kernel) rfl)) (T := TX5) (N := 10) rfl (by decide) (by decide +kernel)
  · cases h2; exact ec_cV (bm_X9_counted l) bw_X9_counted bv_X9_counted (by decide) (by decide) (Or.inl (ec_in (i := 424) (by decide +kernel) rfl)) (T := TX9) (N := 10) rfl (by decide) (by decide +kernel)
  · cases h2
theorem bj_X9_delay (l : Launch) : ex_ok l 1 22 bx_X9_delay := ⟨ec_fok fo_X9, ec_cok co_X9, so_X9, bk_X9_delay l, fun _ h => (by cases h), fun _ h => (by cases h), fun _ h => (by cases h), fun _ _ h => (by cases h)⟩
theorem bm_X9_delay (l : Launch) : ex_Met l yX9_delay cX9_delay 2 (some .int) 1 22 (ab_sp ab_hd bc_X9_delay) := ab_met (by decide) (by decide) rfl (bj_X9_delay l) bd_X9_delay ab_hcm ab_xk bz_X9_delay
theorem bw_X9_known : ec_cw yX9_known cX9_known 3 (some .int) := ⟨ec_in (i := 1044) (by decide +kernel) rfl, ec_in (i := 58) (by decide +kernel) rfl, by decide, by decide⟩
theorem bv_X9_known : Cond.instanceMethod yX9_known ∈ ec_tb ∧ Cond.selects yX9_known.cls yX9_known yX9_known ∈ ec_tb := ⟨ec_in (i := 1042) (by decide +kernel) rfl, ec_in (i := 1043) (by decide +kernel) rfl⟩
theorem bk_X9_known (l : Launch) : ∀ (ix n : Nat) (rc : Option Nat) (sp : ex_S), (be_X9_known ix).map (fun q => (q.1, q.2.1, ab_sp ab_hd q.2.2)) = some (n, rc, sp) → ex_cok l RX9 2 43 ix n rc sp := by
  intro ix n rc sp h
  obtain ⟨l0, h2, rfl⟩ := ab_dmk h
  clear h
  unfold be_X9_known at h2
  split at h2
  · cases h2; exact ec_cV (bm_X5_latestHeard l) bw_X5_latestHeard bv_X5_latestHeard (by decide) (by decide) (Or.inl (ec_in (i := 1045) (by decide +kernel) rfl)) (T := TX5) (N := 10) rfl (by decide) (by decide +kernel)
  · cases h2; exact ec_cV (bm_X9_counted l) bw_X9_counted bv_X9_counted (by decide) (by decide) (Or.inl (ec_in (i := 424) (by decide +kernel) rfl)) (T := TX9) (N := 10) rfl (by decide) (by decide +kernel)
  · cases h2
theorem bj_X9_known (l : Launch) : ex_ok l 2 43 bx_X9_known := ⟨ec_fok fo_X9, ec_cok co_X9, so_X9, bk_X9_known l, fun _ h => (by cases h), fun _ h => (by cases h), fun _ h => (by cases h), fun _ _ h => (by cases h)⟩
theorem bm_X9_known (l : Launch) : ex_Met l yX9_known cX9_known 3 (some .int) 2 43 (ab_sp ab_hd bc_X9_known) := ab_met (by decide) (by decide) rfl (bj_X9_known l) bd_X9_known ab_hcm ab_xk bz_X9_known
theorem bw_X9_isMass : ec_cw yX9_isMass cX9_isMass 1 (some .boolean) := ⟨ec_in (i := 1060) (by decide +kernel) rfl, ec_in (i := 58) (by decide +kernel) rfl, by decide, by decide⟩
theorem bv_X9_isMass : Cond.static yX9_isMass ∈ ec_tb := ec_in (i := 1059) (by decide +kernel) rfl
theorem bj_X9_isMass (l : Launch) : ex_ok l 0 0 bx_X9_isMass := ⟨ec_fok fo_X9, ec_cok co_X9, so_X9, fun _ _ _ _ h => (by cases h), fun _ h => (by cases h), fun _ h => (by cases h), fun _ h => (by cases h), fun _ _ h => (by cases h)⟩
theorem bm_X9_isMass (l : Launch) : ex_Met l yX9_isMass cX9_isMass 1 (some .boolean) 0 0 (ab_sp ab_hd bc_X9_isMass) := ab_met (by decide) (by decide) rfl (bj_X9_isMass l) bd_X9_isMass ab_hcm ab_xk bz_X9_isMass
theorem bw_X9_setMass : ec_cw yX9_setMass cX9_setMass 3 (some .int) := ⟨ec_in (i := 1057) (by decide +kernel) rfl, ec_in (i := 58) (by decide +kernel) rfl, by decide, by decide⟩
theorem bv_X9_setMass : Cond.instanceMethod yX9_setMass ∈ ec_tb ∧ Cond.selects yX9_setMass.cls yX9_setMass yX9_setMass ∈ ec_tb := ⟨ec_in (i := 1056) (by decide +kernel) rfl, ec_in (i := 24) (by decide +kernel) rfl⟩
theorem bk_X9_setMass (l : Launch) : ∀ (ix n : Nat) (rc : Option Nat) (sp : ex_S), (be_X9_setMass ix).map (fun q => (q.1, q.2.1, ab_sp ab_hd q.2.2)) = some (n, rc, sp) → ex_cok l RX9 1 20 ix n rc sp := by
  intro ix n rc sp h
  obtain ⟨l0, h2, rfl⟩ := ab_dmk h
  clear h
  unfold be_X9_setMass at h2
  split at h2
  · cases h2; exact ec_cS (bm_X9_isMass l) bw_X9_isMass bv_X9_isMass (by decide) (by decide) (Or.inl (ec_in (i := 1058) (by decide +kernel) rfl)) (by decide +kernel)
  · cases h2
theorem bj_X9_setMass (l : Launch) : ex_ok l 1 20 bx_X9_setMass := ⟨ec_fok fo_X9, ec_cok co_X9, so_X9, bk_X9_setMass l, fun _ h => (by cases h), fun _ h => (by cases h), fun _ h => (by cases h), fun _ _ h => (by cases h)⟩
theorem bm_X9_setMass (l : Launch) : ex_Met l yX9_setMass cX9_setMass 3 (some .int) 1 20 (ab_sp ab_hd bc_X9_setMass) := ab_met (by decide) (by decide) rfl (bj_X9_setMass l) bd_X9_setMass ab_hcm ab_xk bz_X9_setMass
theorem bw_X9_isSpeed : ec_cw yX9_isSpeed cX9_isSpeed 1 (some .boolean) := ⟨ec_in (i := 1068) (by decide +kernel) rfl, ec_in (i := 58) (by decide +kernel) rfl, by decide, by decide⟩
theorem bv_X9_isSpeed : Cond.static yX9_isSpeed ∈ ec_tb := ec_in (i := 1067) (by decide +kernel) rfl
theorem bj_X9_isSpeed (l : Launch) : ex_ok l 0 0 bx_X9_isSpeed := ⟨ec_fok fo_X9, ec_cok co_X9, so_X9, fun _ _ _ _ h => (by cases h), fun _ h => (by cases h), fun _ h => (by cases h), fun _ h => (by cases h), fun _ _ h => (by cases h)⟩
theorem bm_X9_isSpeed (l : Launch) : ex_Met l yX9_isSpeed cX9_isSpeed 1 (some .boolean) 0 0 (ab_sp ab_hd bc_X9_isSpeed) := ab_met (by decide) (by decide) rfl (bj_X9_isSpeed l) bd_X9_isSpeed ab_hcm ab_xk bz_X9_isSpeed
theorem bw_X9_setSpeed : ec_cw yX9_setSpeed cX9_setSpeed 3 (some .int) := ⟨ec_in (i := 1065) (by decide +kernel) rfl, ec_in (i := 58) (by decide +kernel) rfl, by decide, by decide⟩
theorem bv_X9_setSpeed : Cond.instanceMethod yX9_setSpeed ∈ ec_tb ∧ Cond.selects yX9_setSpeed.cls yX9_setSpeed yX9_setSpeed ∈ ec_tb := ⟨ec_in (i := 1064) (by decide +kernel) rfl, ec_in (i := 25) (by decide +kernel) rfl⟩
theorem bk_X9_setSpeed (l : Launch) : ∀ (ix n : Nat) (rc : Option Nat) (sp : ex_S), (be_X9_setSpeed ix).map (fun q => (q.1, q.2.1, ab_sp ab_hd q.2.2)) = some (n, rc, sp) → ex_cok l RX9 1 20 ix n rc sp := by
  intro ix n rc sp h
  obtain ⟨l0, h2, rfl⟩ := ab_dmk h
  clear h
  unfold be_X9_setSpeed at h2
  split at h2
  · cases h2; exact ec_cS (bm_X9_isSpeed l) bw_X9_isSpeed bv_X9_isSpeed (by decide) (by decide) (Or.inl (ec_in (i := 1066) (by decide +kernel) rfl)) (by decide +kernel)
  · cases h2
theorem bj_X9_setSpeed (l : Launch) : ex_ok l 1 20 bx_X9_setSpeed := ⟨ec_fok fo_X9, ec_cok co_X9, so_X9, bk_X9_setSpeed l, fun _ h => (by cases h), fun _ h => (by cases h), fun _ h => (by cases h), fun _ _ h => (by cases h)⟩
theorem bm_X9_setSpeed (l : Launch) : ex_Met l yX9_setSpeed cX9_setSpeed 3 (some .int) 1 20 (ab_sp ab_hd bc_X9_setSpeed) := ab_met (by decide) (by decide) rfl (bj_X9_setSpeed l) bd_X9_setSpeed ab_hcm ab_xk bz_X9_setSpeed
theorem bw_X9_mass : ec_cw yX9_mass cX9_mass 3 (some .int) := ⟨ec_in (i := 1053) (by decide +kernel) rfl, ec_in (i := 58) (by decide +kernel) rfl, by decide, by decide⟩
theorem bv_X9_mass : Cond.instanceMethod yX9_mass ∈ ec_tb ∧ Cond.selects yX9_mass.cls yX9_mass yX9_mass ∈ ec_tb := ⟨ec_in (i := 1051) (by decide +kernel) rfl, ec_in (i := 1052) (by decide +kernel) rfl⟩
theorem bk_X9_mass (l : Launch) : ∀ (ix n : Nat) (rc : Option Nat) (sp : ex_S), (be_X9_mass ix).map (fun q => (q.1, q.2.1, ab_sp ab_hd q.2.2)) = some (n, rc, sp) → ex_cok l RX9 2 42 ix n rc sp := by
  intro ix n rc sp h
  obtain ⟨l0, h2, rfl⟩ := ab_dmk h
  clear h
  unfold be_X9_mass at h2
  split at h2
  · cases h2; exact ec_cV (bm_X9_setMass l) bw_X9_setMass bv_X9_setMass (by decide) (by decide) (Or.inl (ec_in (i := 1054) (by decide +kernel) rfl)) (T := TX9) (N := 10) rfl (by decide) (by decide +kernel)
  · cases h2; exact ec_cV (bm_X9_counted l) bw_X9_counted bv_X9_counted (by decide) (by decide) (Or.inl (ec_in (i := 424) (by decide +kernel) rfl)) (T := TX9) (N := 10) rfl (by decide) (by decide +kernel)
  · cases h2; exact ec_cV (bm_X9_setSpeed l) bw_X9_setSpeed bv_X9_setSpeed (by decide) (by decide) (Or.inl (ec_in (i := 1062) (by decide +kernel) rfl)) (T := TX9) (N := 10) rfl (by decide) (by decide +kernel)
  · cases h2
theorem bj_X9_mass (l : Launch) : ex_ok l 2 42 bx_X9_mass := ⟨ec_fok fo_X9, ec_cok co_X9, so_X9, bk_X9_mass l, fun _ h => (by cases h), fun _ h => (by cases h), fun _ h => (by cases h), fun _ _ h => (by cases h)⟩
theorem bm_X9_mass (l : Launch) : ex_Met l yX9_mass cX9_mass 3 (some .int) 2 42 (ab_sp ab_hd bc_X9_mass) := ab_met (by decide) (by decide) rfl (bj_X9_mass l) bd_X9_mass ab_hcm ab_xk bz_X9_mass
theorem bw_X9_dock : ec_cw yX9_dock cX9_dock 6 (some .int) := ⟨ec_in (i := 1072) (by decide +kernel) rfl, ec_in (i := 58) (by decide +kernel) rfl, by decide, by decide⟩
theorem bv_X9_dock : Cond.instanceMethod yX9_dock ∈ ec_tb ∧ Cond.selects yX9_dock.cls yX9_dock yX9_dock ∈ ec_tb := ⟨ec_in (i := 1070) (by decide +kernel) rfl, ec_in (i := 1071) (by decide +kernel) rfl⟩
theorem bk_X9_dock (l : Launch) : ∀ (ix n : Nat) (rc : Option Nat) (sp : ex_S), (be_X9_dock ix).map (fun q => (q.1, q.2.1, ab_sp ab_hd q.2.2)) = some (n, rc, sp) → ex_cok l RX9 1 21 ix n rc sp := by
  intro ix n rc sp h
  obtain ⟨l0, h2, rfl⟩ := ab_dmk h
  clear h
  unfold be_X9_dock at h2
  split at h2
  · cases h2; exact ec_cS (bm_X9_isMass l) bw_X9_isMass bv_X9_isMass (by decide) (by decide) (Or.inl (ec_in (i := 1058) (by decide +kernel) rfl)) (by decide +kernel)
  · cases h2; exact ec_cS (bm_X9_isSpeed l) bw_X9_isSpeed bv_X9_isSpeed (by decide) (by decide) (Or.inl (ec_in (i := 1066) (by decide +kernel) rfl)) (by decide +kernel)
  · cases h2; exact ec_cV (bm_X9_counted l) bw_X9_counted bv_X9_counted (by decide) (by decide) (Or.inl (ec_in (i := 424) (by decide +kernel) rfl)) (T := TX9) (N := 10) rfl (by decide) (by decide +kernel)
  · cases h2
theorem bj_X9_dock (l : Launch) : ex_ok l 1 21 bx_X9_dock := ⟨ec_fok fo_X9, ec_cok co_X9, so_X9, bk_X9_dock l, fun _ h => (by cases h), fun _ h => (by cases h), fun _ h => (by cases h), fun _ _ h => (by cases h)⟩
theorem bm_X9_dock (l : Launch) : ex_Met l yX9_dock cX9_dock 6 (some .int) 1 21 (ab_sp ab_hd bc_X9_dock) := ab_met (by decide) (by decide) rfl (bj_X9_dock l) bd_X9_dock ab_hcm ab_xk bz_X9_dock
theorem bw_X9_undock : ec_cw yX9_undock cX9_undock 2 (some .int) := ⟨ec_in (i := 1076) (by decide +kernel) rfl, ec_in (i := 58) (by decide +kernel) rfl, by decide, by decide⟩
theorem bv_X9_undock : Cond.instanceMethod yX9_undock ∈ ec_tb ∧ Cond.selects yX9_undock.cls yX9_undock yX9_undock ∈ ec_tb := ⟨ec_in (i := 1074) (by decide +kernel) rfl, ec_in (i := 1075) (by decide +kernel) rfl⟩
theorem bk_X9_undock (l : Launch) : ∀ (ix n : Nat) (rc : Option Nat) (sp : ex_S), (be_X9_undock ix).map (fun q => (q.1, q.2.1, ab_sp ab_hd q.2.2)) = some (n, rc, sp) → ex_cok l RX9 1 21 ix n rc sp := by
  intro ix n rc sp h
  obtain ⟨l0, h2, rfl⟩ := ab_dmk h
  clear h
  unfold be_X9_undock at h2
  split at h2
  · cases h2; exact ec_cS (bm_X9_isMass l) bw_X9_isMass bv_X9_isMass (by decide) (by decide) (Or.inl (ec_in (i := 1058) (by decide +kernel) rfl)) (by decide +kernel)
  · cases h2; exact ec_cV (bm_X9_counted l) bw_X9_counted bv_X9_counted (by decide) (by decide) (Or.inl (ec_in (i := 424) (by decide +kernel) rfl)) (T := TX9) (N := 10) rfl (by decide) (by decide +kernel)
  · cases h2
theorem bj_X9_undock (l : Launch) : ex_ok l 1 21 bx_X9_undock := ⟨ec_fok fo_X9, ec_cok co_X9, so_X9, bk_X9_undock l, fun _ h => (by cases h), fun _ h => (by cases h), fun _ h => (by cases h), fun _ _ h => (by cases h)⟩
theorem bm_X9_undock (l : Launch) : ex_Met l yX9_undock cX9_undock 2 (some .int) 1 21 (ab_sp ab_hd bc_X9_undock) := ab_met (by decide) (by decide) rfl (bj_X9_undock l) bd_X9_undock ab_hcm ab_xk bz_X9_undock
theorem bw_X9_tell : ec_cw yX9_tell cX9_tell 2 (some .int) := ⟨ec_in (i := 1080) (by decide +kernel) rfl, ec_in (i := 58) (by decide +kernel) rfl, by decide, by decide⟩
theorem bv_X9_tell : Cond.instanceMethod yX9_tell ∈ ec_tb ∧ Cond.selects yX9_tell.cls yX9_tell yX9_tell ∈ ec_tb := ⟨ec_in (i := 1078) (by decide +kernel) rfl, ec_in (i := 1079) (by decide +kernel) rfl⟩
theorem bk_X9_tell (l : Launch) : ∀ (ix n : Nat) (rc : Option Nat) (sp : ex_S), (be_X9_tell ix).map (fun q => (q.1, q.2.1, ab_sp ab_hd q.2.2)) = some (n, rc, sp) → ex_cok l RX9 1 21 ix n rc sp := by
  intro ix n rc sp h
  obtain ⟨l0, h2, rfl⟩ := ab_dmk h
  clear h
  unfold be_X9_tell at h2
  split at h2
  · cases h2; exact ec_cV (bm_X9_counted l) bw_X9_counted bv_X9_counted (by decide) (by decide) (Or.inl (ec_in (i := 424) (by decide +kernel) rfl)) (T := TX9) (N := 10) rfl (by decide) (by decide +kernel)
  · cases h2
theorem bj_X9_tell (l : Launch) : ex_ok l 1 21 bx_X9_tell := ⟨ec_fok fo_X9, ec_cok co_X9, so_X9, bk_X9_tell l, fun _ h => (by cases h), fun _ h => (by cases h), fun _ h => (by cases h), fun _ _ h => (by cases h)⟩
theorem bm_X9_tell (l : Launch) : ex_Met l yX9_tell cX9_tell 2 (some .int) 1 21 (ab_sp ab_hd bc_X9_tell) := ab_met (by decide) (by decide) rfl (bj_X9_tell l) bd_X9_tell ab_hcm ab_xk bz_X9_tell
theorem bw_X9_check : ec_cw yX9_check cX9_check 5 (some .int) := ⟨ec_in (i := 1084) (by decide +kernel) rfl, ec_in (i := 58) (by decide +kernel) rfl, by decide, by decide⟩
theorem bv_X9_check : Cond.instanceMethod yX9_check ∈ ec_tb ∧ Cond.selects yX9_check.cls yX9_check yX9_check ∈ ec_tb := ⟨ec_in (i := 1082) (by decide +kernel) rfl, ec_in (i := 1083) (by decide +kernel) rfl⟩
theorem bk_X9_check (l : Launch) : ∀ (ix n : Nat) (rc : Option Nat) (sp : ex_S), (be_X9_check ix).map (fun q => (q.1, q.2.1, ab_sp ab_hd q.2.2)) = some (n, rc, sp) → ex_cok l RX9 6 134 ix n rc sp := by
  intro ix n rc sp h
  obtain ⟨l0, h2, rfl⟩ := ab_dmk h
  clear h
  unfold be_X9_check at h2
  split at h2
  · cases h2; exact ec_cV (bm_X0_hasModule l) bw_X0_hasModule bv_X0_hasModule (by decide) (by decide) (Or.inl (ec_in (i := 502) (by decide +kernel) rfl)) (T := TX0) (N := 8) rfl (by decide) (by decide +kernel)
  · cases h2; exact ec_cS (bm_X0_isSort l) bw_X0_isSort bv_X0_isSort (by decide) (by decide) (Or.inl (ec_in (i := 1085) (by decide +kernel) rfl)) (by decide +kernel)
  · cases h2; exact ec_cV (bm_X9_counted l) bw_X9_counted bv_X9_counted (by decide) (by decide) (Or.inl (ec_in (i := 424) (by decide +kernel) rfl)) (T := TX9) (N := 10) rfl (by decide) (by decide +kernel)
  · cases h2; exact ec_cV (bm_X8_becomeLike l) bw_X8_becomeLike bv_X8_becomeLike (by decide) (by decide) (Or.inl (ec_in (i := 864) (by decide +kernel) rfl)) (T := TX8) (N := 7) rfl (by decide) (by decide +kernel)
  · cases h2; exact ec_cV (bm_X8_passTick l) bw_X8_passTick bv_X8_passTick (by decide) (by decide) (Or.inl (ec_in (i := 698) (by decide +kernel) rfl)) (T := TX8) (N := 7) rfl (by decide) (by decide +kernel)
  · cases h2; exact ec_cV (bm_X0_amount l) bw_X0_amount bv_X0_amount (by decide) (by decide) (Or.inl (ec_in (i := 1086) (by decide +kernel) rfl)) (T := TX0) (N := 8) rfl (by decide) (by decide +kernel)
  · cases h2
theorem bj_X9_check (l : Launch) : ex_ok l 6 134 bx_X9_check := ⟨ec_fok fo_X9, ec_cok co_X9, so_X9, bk_X9_check l, fun _ h => (by cases h), fun _ h => (by cases h), fun _ h => (by cases h), fun _ _ h => (by cases h)⟩
theorem bm_X9_check (l : Launch) : ex_Met l yX9_check cX9_check 5 (some .int) 6 134 (ab_sp ab_hd bc_X9_check) := ab_met (by decide) (by decide) rfl (bj_X9_check l) bd_X9_check ab_hcm ab_xk bz_X9_check
theorem bw_X9_count : ec_cw yX9_count cX9_count 2 (some .int) := ⟨ec_in (i := 1090) (by decide +kernel) rfl, ec_in (i := 58) (by decide +kernel) rfl, by decide, by decide⟩
theorem bv_X9_count : Cond.instanceMethod yX9_count ∈ ec_tb ∧ Cond.selects yX9_count.cls yX9_count yX9_count ∈ ec_tb := ⟨ec_in (i := 1088) (by decide +kernel) rfl, ec_in (i := 1089) (by decide +kernel) rfl⟩
theorem bk_X9_count (l : Launch) : ∀ (ix n : Nat) (rc : Option Nat) (sp : ex_S), (be_X9_count ix).map (fun q => (q.1, q.2.1, ab_sp ab_hd q.2.2)) = some (n, rc, sp) → ex_cok l RX9 2 43 ix n rc sp := by
  intro ix n rc sp h
  obtain ⟨l0, h2, rfl⟩ := ab_dmk h
  clear h
  unfold be_X9_count at h2
  split at h2
  · cases h2; exact ec_cV (bm_X3_menders l) bw_X3_menders bv_X3_menders (by decide) (by decide) (Or.inl (ec_in (i := 1091) (by decide +kernel) rfl)) (T := TX3) (N := 7) rfl (by decide) (by decide +kernel)
  · cases h2; exact ec_cV (bm_X9_counted l) bw_X9_counted bv_X9_counted (by decide) (by decide) (Or.inl (ec_in (i := 424) (by decide +kernel) rfl)) (T := TX9) (N := 10) rfl (by decide) (by decide +kernel)
  · cases h2
theorem bj_X9_count (l : Launch) : ex_ok l 2 43 bx_X9_count := ⟨ec_fok fo_X9, ec_cok co_X9, so_X9, bk_X9_count l, fun _ h => (by cases h), fun _ h => (by cases h), fun _ h => (by cases h), fun _ _ h => (by cases h)⟩
theorem bm_X9_count (l : Launch) : ex_Met l yX9_count cX9_count 2 (some .int) 2 43 (ab_sp ab_hd bc_X9_count) := ab_met (by decide) (by decide) rfl (bj_X9_count l) bd_X9_count ab_hcm ab_xk bz_X9_count

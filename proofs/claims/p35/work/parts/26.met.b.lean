theorem ba_X4_narrow : ec_al [(964, Cond.code yX4_narrow cX4_narrow 5 (some .int)), (66, Cond.initialized yX4_narrow.cls), (962, Cond.instanceMethod yX4_narrow), (963, Cond.selects yX4_narrow.cls yX4_narrow yX4_narrow), (965, Cond.methodLink RX4 24 yX0_hasModule), (967, Cond.methodLink RX4 32 yX4_findParts)] := ec_alk (by decide +kernel)
theorem bw_X4_narrow : ec_cw yX4_narrow cX4_narrow 5 (some .int) := ⟨ba_X4_narrow.1, ba_X4_narrow.2.1, nc_RX4⟩
theorem bv_X4_narrow : Cond.instanceMethod yX4_narrow ∈ ec_tb ∧ Cond.selects yX4_narrow.cls yX4_narrow yX4_narrow ∈ ec_tb := ⟨ba_X4_narrow.2.2.1, ba_X4_narrow.2.2.2.1⟩
theorem bp_X4_narrow : (parseMethodDescriptor yX4_narrow.desc).map (fun d => d.parameters.length) = some 3 := by decide +kernel
theorem bk_X4_narrow (l : Launch) : ∀ (ix n : Nat) (rc : Option Nat) (sp : ex_S), (be_X4_narrow ix).map (fun q => (q.1, q.2.1, ab_sp ab_hd q.2.2)) = some (n, rc, sp) → ex_cok l RX4 2 46 ix n rc sp := by
  intro ix n rc sp h
  obtain ⟨l0, h2, rfl⟩ := ab_dmk h
  clear h
  unfold be_X4_narrow at h2
  split at h2
  · cases h2; exact ec_cV (bm_X0_hasModule l) bw_X0_hasModule bv_X0_hasModule (by decide) (by decide) (Or.inl ba_X4_narrow.2.2.2.2.1) (T := TX0) (N := 8) rfl (by decide) bp_X0_hasModule
  · cases h2; exact ec_cV (bm_X4_findParts l) bw_X4_findParts bv_X4_findParts (by decide) (by decide) (Or.inl ba_X4_narrow.2.2.2.2.2.1) (T := TX4) (N := 2) rfl (by decide) bp_X4_findParts
  · cases h2
theorem bj_X4_narrow (l : Launch) : ex_ok l 2 46 bx_X4_narrow := ec_okp fo_X4 co_X4 so_X4 (bk_X4_narrow l)
theorem dX4_narrow_0 : decode cX4_narrow 0 = .ok (.aload_n 1, 1) := by decide +kernel
theorem dX4_narrow_1 : decode cX4_narrow 1 = .ok (.iload_n 3, 1) := by decide +kernel
theorem dX4_narrow_2 : decode cX4_narrow 2 = .ok (.invokevirtual 24, 3) := by decide +kernel
theorem dX4_narrow_5 : decode cX4_narrow 5 = .ok (.ifCond .eq 17, 3) := by decide +kernel
theorem dX4_narrow_8 : decode cX4_narrow 8 = .ok (.iload_n 2, 1) := by decide +kernel
theorem dX4_narrow_9 : decode cX4_narrow 9 = .ok (.ifCond .lt 13, 3) := by decide +kernel
theorem dX4_narrow_12 : decode cX4_narrow 12 = .ok (.iload_n 2, 1) := by decide +kernel
theorem dX4_narrow_13 : decode cX4_narrow 13 = .ok (.iconst 1, 1) := by decide +kernel
theorem dX4_narrow_14 : decode cX4_narrow 14 = .ok (.aload_n 1, 1) := by decide +kernel
theorem dX4_narrow_15 : decode cX4_narrow 15 = .ok (.getfield 28, 3) := by decide +kernel
theorem dX4_narrow_18 : decode cX4_narrow 18 = .ok (.ishl, 1) := by decide +kernel
theorem dX4_narrow_19 : decode cX4_narrow 19 = .ok (.if_icmp .lt 6, 3) := by decide +kernel
theorem dX4_narrow_22 : decode cX4_narrow 22 = .ok (.ldc 31, 2) := by decide +kernel
theorem dX4_narrow_24 : decode cX4_narrow 24 = .ok (.ireturn, 1) := by decide +kernel
theorem dX4_narrow_25 : decode cX4_narrow 25 = .ok (.aload_n 0, 1) := by decide +kernel
theorem dX4_narrow_26 : decode cX4_narrow 26 = .ok (.aload_n 1, 1) := by decide +kernel
theorem dX4_narrow_27 : decode cX4_narrow 27 = .ok (.iload_n 2, 1) := by decide +kernel
theorem dX4_narrow_28 : decode cX4_narrow 28 = .ok (.invokevirtual 32, 3) := by decide +kernel
theorem dX4_narrow_31 : decode cX4_narrow 31 = .ok (.aload_n 0, 1) := by decide +kernel
theorem dX4_narrow_32 : decode cX4_narrow 32 = .ok (.getfield 21, 3) := by decide +kernel
theorem dX4_narrow_35 : decode cX4_narrow 35 = .ok (.aload_n 0, 1) := by decide +kernel
theorem dX4_narrow_36 : decode cX4_narrow 36 = .ok (.getfield 9, 3) := by decide +kernel
theorem dX4_narrow_39 : decode cX4_narrow 39 = .ok (.iload_n 3, 1) := by decide +kernel
theorem dX4_narrow_40 : decode cX4_narrow 40 = .ok (.iaload, 1) := by decide +kernel
theorem dX4_narrow_41 : decode cX4_narrow 41 = .ok (.iand, 1) := by decide +kernel
theorem dX4_narrow_42 : decode cX4_narrow 42 = .ok (.istore 4, 2) := by decide +kernel
theorem dX4_narrow_44 : decode cX4_narrow 44 = .ok (.iload 4, 2) := by decide +kernel
theorem dX4_narrow_46 : decode cX4_narrow 46 = .ok (.ifCond .ne 6, 3) := by decide +kernel
theorem dX4_narrow_49 : decode cX4_narrow 49 = .ok (.ldc 36, 2) := by decide +kernel
theorem dX4_narrow_51 : decode cX4_narrow 51 = .ok (.ireturn, 1) := by decide +kernel
theorem dX4_narrow_52 : decode cX4_narrow 52 = .ok (.aload_n 0, 1) := by decide +kernel
theorem dX4_narrow_53 : decode cX4_narrow 53 = .ok (.iload 4, 2) := by decide +kernel
theorem dX4_narrow_55 : decode cX4_narrow 55 = .ok (.putfield 21, 3) := by decide +kernel
theorem dX4_narrow_58 : decode cX4_narrow 58 = .ok (.iload 4, 2) := by decide +kernel
theorem dX4_narrow_60 : decode cX4_narrow 60 = .ok (.ireturn, 1) := by decide +kernel
set_option maxRecDepth 100000 in
set_option maxHeartbeats 4000000 in
theorem nw_w0 {cs : ex_C} {Q : ex_Q} {I : Nat → Option (ex_L → ex_V → ex_C → Prop)} {c m : Int32} (hI : ∀ pc, I pc = none) (hk1 : ab_hk ab_hd cs) (hQ : ∀ (x : Int32) cs', ab_hk ab_hd cs' → ab_fr [(64, some 1), (65, none)] cs cs' → x.toInt = hu_t (gi cs 7 6) (gi cs 7 7) (gi cs 64 1) c m (hu_P (gi cs 7) (gi cs 10) (gi cs 11) (gi cs 65) c m) → (gi cs' 64 1).toInt = hu_s (gi cs 7 6) (gi cs 7 7) (gi cs 64 1) c m (hu_P (gi cs 7) (gi cs 10) (gi cs 11) (gi cs 65) c m) → Q (some (.int x)) cs') : ex_wp ec_xt bx_X4_narrow cX4_narrow (some .int) I Q 60 0 [some (.ref 64), some (.ref 7), some (.int c), some (.int m), none] [] cs := by
  have z0 := ab_z0
  obtain ⟨fs, h7, a6, a7, a2, a3, h10, h11, ⟨M1, M2⟩, ⟨H1, H2⟩, E10, E11⟩ := hu_air (cs := cs) hk1 (rfl) (rfl) (rfl)
  obtain ⟨gs, h64, ul, u0, u1, h65⟩ := hu_hun hk1
  refine wq_aload_n dX4_narrow_0 rfl rfl ?_
  refine go_wp (hI _) (wq_iload_n dX4_narrow_1 rfl rfl ?_)
  refine go_wp (hI _) (wq_virtual (q := 2) (ci := 0) (a := 7) (av := [.ref 7, .int m]) (r := []) dX4_narrow_2 rfl (Nat.le_of_ble_eq_true rfl) rfl rfl rfl (Nat.le_of_ble_eq_true rfl) h7 rfl (hx_call 0 (c := ([.inl 7, .inr ((-2147483648), 2147483647)], [], [], [(some (1, 1, none), [((0, 1, 0), 0, 5, none), ((9, 1, 8006), (-4294967296), (-1), none), ((8, 8006, 0), 1, 6, none)], []), (some (0, 0, none), [((0, 1, 0), 0, 2147483647, none), ((9, 1, 8006), 0, 4294967296, none), ((8, 8006, 0), 0, 6, none)], []), (some (0, 0, none), [((0, 1, 0), (-2147483648), (-1), none)], [])])) rfl (hx_pr2 hx_cr (hx_ci (hx_tb _))) hk1 (fun r cs1 hp => ?_)))
  obtain ⟨hk1, hf1, x, rfl, hx⟩ := hu_hm hk1 hp
  refine ret_int ?_
  obtain ⟨fsb, h7b, a6b, a7b, a2b, a3b, h10b, h11b, -, -, -, -⟩ := hu_air (cs := cs) hk1 (gi_fr hf1 (fun _ => rfl)) (gi_fr hf1 (fun _ => rfl)) (gi_fr hf1 (fun _ => rfl))
  obtain ⟨gsb, h64b, ulb, u0b, u1b, h65b⟩ := hu_hun hk1
  have es : gi cs1 64 1 = gi cs 64 1 := gi_f1 hf1 rfl
  refine go_wp (hI _) (wq_if_eq (t := 22) dX4_narrow_5 (by decide) rfl (fun q1 => ?_) (fun q1 => ?_))
  · have q1' : Int32.toInt x = Int32.toInt 0 := (ab_ieq (x := x) (y := 0)).1 q1
    refine go_wp (hI _) (wq_ldc (v := (-1000000001)) dX4_narrow_22 rfl rfl ?_)
    refine go_wp (hI _) (wq_ireturn dX4_narrow_24 trivial (hQ _ _ hk1 (hx_fr hf1) ((hu_tb (by unfold hu_b; omega)).1) ((congrArg Int32.toInt es).trans (hu_tb (by unfold hu_b; omega)).2)))
  · have q1' : Int32.toInt x ≠ Int32.toInt 0 := (ab_ieq (x := x) (y := 0)).2 q1
    refine go_wp (hI _) (wq_iload_n dX4_narrow_8 rfl rfl ?_)
    refine go_wp (hI _) (wq_if_lt (t := 22) dX4_narrow_9 (by decide) rfl (fun q2 => ?_) (fun q2 => ?_))
    · have q2' : Int32.toInt c < Int32.toInt 0 := (ab_ilt (x := c) (y := 0)).1 q2
      refine go_wp (hI _) (wq_ldc (v := (-1000000001)) dX4_narrow_22 rfl rfl ?_)
      refine go_wp (hI _) (wq_ireturn dX4_narrow_24 trivial (hQ _ _ hk1 (hx_fr hf1) ((hu_tb (by unfold hu_b; omega)).1) ((congrArg Int32.toInt es).trans (hu_tb (by unfold hu_b; omega)).2)))
    · have q2' : Int32.toInt c ≥ Int32.toInt 0 := (ab_ilt (x := c) (y := 0)).2 q2
      refine go_wp (hI _) (wq_iload_n dX4_narrow_12 rfl rfl ?_)
      refine go_wp (hI _) (wq_iconst (v := 1) dX4_narrow_13 (by decide) rfl ?_)
      refine go_wp (hI _) (wq_aload_n dX4_narrow_14 rfl rfl ?_)
      refine go_wp (hI _) (wq_getfield dX4_narrow_15 fe_X4_28 h7b a7b rfl ?_)
      refine go_wp (hI _) (wq_ishl (v := ((1 : Int32) <<< ((gi cs 7 7) &&& 31))) dX4_narrow_18 rfl rfl ?_)
      refine go_wp (hI _) (wq_icmp_lt (t := 25) dX4_narrow_19 (by decide) rfl (fun q3 => ?_) (fun q3 => ?_))
      · have q3' : Int32.toInt c < Int32.toInt ((1 : Int32) <<< ((gi cs 7 7) &&& 31)) := (ab_ilt (x := c) (y := ((1 : Int32) <<< ((gi cs 7 7) &&& 31)))).1 q3
        refine go_wp (hI _) (wq_aload_n dX4_narrow_25 rfl rfl ?_)
        refine go_wp (hI _) (wq_aload_n dX4_narrow_26 rfl rfl ?_)
        refine go_wp (hI _) (wq_iload_n dX4_narrow_27 rfl rfl ?_)
        refine go_wp (hI _) (wq_virtual (q := 3) (ci := 4) (a := 64) (av := [.ref 64, .ref 7, .int c]) (r := []) dX4_narrow_28 rfl (Nat.le_of_ble_eq_true rfl) rfl rfl rfl (Nat.le_of_ble_eq_true rfl) h64b rfl (hx_call 0 (c := ([.inl 64, .inl 7, .inr ((-2147483648), 2147483647)], [], [(65, none)], [(none, [], [((1, 65, 0), (-2147483648), 2147483647, some (900000020, 0)), ((1, 65, 1), (-2147483648), 2147483647, some (900000021, 0)), ((1, 65, 2), (-2147483648), 2147483647, some (900000022, 0)), ((1, 65, 3), (-2147483648), 2147483647, some (900000023, 0)), ((1, 65, 4), (-2147483648), 2147483647, some (900000024, 0)), ((1, 65, 5), (-2147483648), 2147483647, some (900000025, 0))])])) rfl (hx_pr3 hx_cr hx_cr (hx_ci (hx_tb _))) hk1 (fun r cs2 hp => ?_)))
        obtain ⟨hk2, hf2, rfl, hn2⟩ := hu_void hp
        refine ret_void ?_
        have hj2 := hu_f6 hn2 hf1
        have hf12 : ab_fr [(65, none)] cs cs2 := (hx_fr hf1).tr hf2
        obtain ⟨fsc, h7c, a6c, a7c, a2c, a3c, h10c, h11c, -, -, -, -⟩ := hu_air (cs := cs) hk2 (gi_fr hf12 (fun _ => rfl)) (gi_fr hf12 (fun _ => rfl)) (gi_fr hf12 (fun _ => rfl))
        obtain ⟨gsc, h64c, ulc, u0c, u1c, h65c⟩ := hu_hun hk2
        have es2 : gi cs2 64 1 = gi cs 64 1 := gi_f1 hf12 rfl
        have ej : gi cs2 65 m.toNatClampNeg = (hu_P (gi cs 7) (gi cs 10) (gi cs 11) (gi cs 65) c m) := hj2 _ (by have : m.toNatClampNeg = m.toInt.toNat := rfl; omega)
        refine go_wp (hI _) (wq_aload_n dX4_narrow_31 rfl rfl ?_)
        refine go_wp (hI _) (wq_getfield dX4_narrow_32 fe_X4_21 h64c u1c rfl ?_)
        refine go_wp (hI _) (wq_aload_n dX4_narrow_35 rfl rfl ?_)
        refine go_wp (hI _) (wq_getfield dX4_narrow_36 fe_X4_9 h64c u0c rfl ?_)
        refine go_wp (hI _) (wq_iload_n dX4_narrow_39 rfl rfl ?_)
        refine go_wp (hI _) (wq_iaload (v := ((gi cs2 65) m.toNatClampNeg)) dX4_narrow_40 (by decide) h65c (vp_mk (by omega) (by omega)) rfl rfl ?_)
        refine go_wp (hI _) (wq_iand (v := ((gi cs2 64 1) &&& ((gi cs2 65) m.toNatClampNeg))) dX4_narrow_41 rfl rfl ?_)
        refine go_wp (hI _) (wq_istore (lv' := [some (.ref 64), some (.ref 7), some (.int c), some (.int m), some (.int ((gi cs2 64 1) &&& ((gi cs2 65) m.toNatClampNeg)))]) dX4_narrow_42 ⟨Nat.le_of_ble_eq_true rfl, rfl⟩ rfl rfl ?_)
        refine go_wp (hI _) (wq_iload dX4_narrow_44 rfl rfl ?_)
        refine go_wp (hI _) (wq_if_ne (t := 52) dX4_narrow_46 (by decide) rfl (fun q4 => ?_) (fun q4 => ?_))
        · have q4' : Int32.toInt ((gi cs2 64 1) &&& ((gi cs2 65) m.toNatClampNeg)) ≠ Int32.toInt 0 := (ab_ieq (x := ((gi cs2 64 1) &&& ((gi cs2 65) m.toNatClampNeg))) (y := 0)).2 q4
          refine go_wp (hI _) (wq_aload_n dX4_narrow_52 rfl rfl ?_)
          refine go_wp (hI _) (wq_iload dX4_narrow_53 rfl rfl ?_)
          refine go_wp (hI _) (wq_putfield (fs' := (gsc.set 1 (.int ((gi cs2 64 1) &&& ((gi cs2 65) m.toNatClampNeg))))) (cs' := (cs2.set 64 (.inr (4, (gsc.set 1 (.int ((gi cs2 64 1) &&& ((gi cs2 65) m.toNatClampNeg)))))))) dX4_narrow_55 fe_X4_21 h64c (by omega) trivial rfl rfl rfl ?_)
          obtain ⟨hk3, hf3, hr3⟩ := hu_put (j := 1) (v := ((gi cs2 64 1) &&& ((gi cs2 65) m.toNatClampNeg))) hk2 rfl h64c rfl
          have er3 := (gi_ri hr3).1
          refine go_wp (hI _) (wq_iload dX4_narrow_58 rfl rfl ?_)
          refine go_wp (hI _) (wq_ireturn dX4_narrow_60 trivial (hQ _ _ hk3 ((hf12.sub (by decide)).tr (hf3.sub (by decide))) (by rw [es2, ej]; exact (hu_tl (fun q => by rcases q with q | q | q | q <;> omega) (by rw [← es2, ← ej]; exact q4')).1) (by rw [er3, es2, ej]; exact (hu_tl (fun q => by rcases q with q | q | q | q <;> omega) (by rw [← es2, ← ej]; exact q4')).2)))
        · have q4' : Int32.toInt ((gi cs2 64 1) &&& ((gi cs2 65) m.toNatClampNeg)) = Int32.toInt 0 := (ab_ieq (x := ((gi cs2 64 1) &&& ((gi cs2 65) m.toNatClampNeg))) (y := 0)).1 q4
          refine go_wp (hI _) (wq_ldc (v := (-1000000002)) dX4_narrow_49 rfl rfl ?_)
          refine go_wp (hI _) (wq_ireturn dX4_narrow_51 trivial (hQ _ _ hk2 (hf12.sub (by decide)) (hu_tn (fun q => by rcases q with q | q | q | q <;> omega) (by rw [← es2, ← ej]; exact q4')).1 ((congrArg Int32.toInt es2).trans (hu_tn (fun q => by rcases q with q | q | q | q <;> omega) (by rw [← es2, ← ej]; exact q4')).2)))
      · have q3' : Int32.toInt c ≥ Int32.toInt ((1 : Int32) <<< ((gi cs 7 7) &&& 31)) := (ab_ilt (x := c) (y := ((1 : Int32) <<< ((gi cs 7 7) &&& 31)))).2 q3
        refine go_wp (hI _) (wq_ldc (v := (-1000000001)) dX4_narrow_22 rfl rfl ?_)
        refine go_wp (hI _) (wq_ireturn dX4_narrow_24 trivial (hQ _ _ hk1 (hx_fr hf1) ((hu_tb (by unfold hu_b; omega)).1) ((congrArg Int32.toInt es).trans (hu_tb (by unfold hu_b; omega)).2)))
set_option maxRecDepth 100000 in
theorem bm_X4_narrow (l : Launch) : ex_Met l yX4_narrow cX4_narrow 5 (some .int) 2 46 (ab_sp ab_hd bc_X4_narrow) := by
  intro D ad ca n sz av cs Q h
  refine ex_lmet (by decide) rfl (bj_X4_narrow l) D ad ca n sz av cs Q ?_
  obtain ⟨c0, hc0, ⟨hp1, hp2, -⟩, hk, hQ⟩ := h
  have hc' : c0 = ([.inl 64, .inl 7, .inr (-2147483648, 2147483647), .inr (-2147483648, 2147483647)], [], [(64, some 1), (65, none)], [(some (-2147483648, 2147483647, some (900000004, 0)), [], [((1, 64, 1), -2147483648, 2147483647, some (900000005, 0))])]) := by
    unfold bc_X4_narrow bq_X4_narrow at hc0
    simpa using hc0
  subst hc'
  obtain ⟨v0, e0, pz0⟩ := hp2 0 _ rfl
  obtain ⟨v1, e1, pz1⟩ := hp2 1 _ rfl
  obtain ⟨v2, e2, c, rfl, c1, c2⟩ := hp2 2 _ rfl
  obtain ⟨v3, e3, m, rfl, m1, m2⟩ := hp2 3 _ rfl
  cases pz0
  cases pz1
  have hav : av = [.ref 64, .ref 7, .int c, .int m] := hx_av4 hp1 e0 e1 e2 e3
  subst hav
  refine sl_in 60 (fun _ => none) rfl (Nat.le_of_ble_eq_true rfl) rfl (nw_w0 (fun _ => rfl) hk (fun x cs' hk' hf' hx hs => ?_)) (fun pc J n lv st cs' hI hJ => (by cases hI))
  refine hQ _ _ ⟨hk', hf', _, List.mem_cons_self, ⟨x, rfl, hx_tb x, fun d hd => ?_⟩, fun q hq => (by cases hq), fun q hq => ?_⟩
  · cases hd
    rw [hg_4, hx]
    show _ = _ + (0 : Int)
    omega
  · rcases List.mem_singleton.mp hq with rfl
    exact hu_ff (hu_r64 hk') (by rw [hg_5]; exact hs)
theorem ba_J6_bitCount_0f7a4 : ec_al [(657, Cond.code yJ6_bitCount_0f7a4 cJ6_bitCount_0f7a4 1 (some .int)), (69, Cond.initialized yJ6_bitCount_0f7a4.cls), (656, Cond.static yJ6_bitCount_0f7a4)] := ec_alk (by decide +kernel)
theorem bw_J6_bitCount_0f7a4 : ec_cw yJ6_bitCount_0f7a4 cJ6_bitCount_0f7a4 1 (some .int) := ⟨ba_J6_bitCount_0f7a4.1, ba_J6_bitCount_0f7a4.2.1, nc_RJ6⟩
theorem bv_J6_bitCount_0f7a4 : Cond.static yJ6_bitCount_0f7a4 ∈ ec_tb := ba_J6_bitCount_0f7a4.2.2.1
theorem bp_J6_bitCount_0f7a4 : (parseMethodDescriptor yJ6_bitCount_0f7a4.desc).map (fun d => d.parameters.length) = some 1 := by decide +kernel
theorem bo_J6_bitCount_0f7a4 : bl_J6_bitCount_0f7a4.all (fun q => decide (Cond.constant RJ6 q.1 q.2 ∈ lw_tbl) && goodWord (Cond.constant RJ6 q.1 q.2)) = true := by decide +kernel
theorem bj_J6_bitCount_0f7a4 (l : Launch) : ex_ok l 0 0 bx_J6_bitCount_0f7a4 := ⟨fun _ _ _ _ _ h => (by cases h), ec_cok bo_J6_bitCount_0f7a4, fun _ _ h => (by cases h), ec_okn, fun _ h => (by cases h), fun _ h => (by cases h), fun _ h => (by cases h), fun _ _ h => (by cases h)⟩
theorem bm_J6_bitCount_0f7a4 (l : Launch) : ex_Met l yJ6_bitCount_0f7a4 cJ6_bitCount_0f7a4 1 (some .int) 0 0 (ab_sp ab_hd bc_J6_bitCount_0f7a4) := ab_met (by decide) pn_RJ6 rfl (bj_J6_bitCount_0f7a4 l) bd_J6_bitCount_0f7a4 ab_hcm ab_xk bz_J6_bitCount_0f7a4
theorem ba_X4_leftAtWorst : ec_al [(987, Cond.code yX4_leftAtWorst cX4_leftAtWorst 5 (some .int)), (66, Cond.initialized yX4_leftAtWorst.cls), (986, Cond.instanceMethod yX4_leftAtWorst), (21, Cond.selects yX4_leftAtWorst.cls yX4_leftAtWorst yX4_leftAtWorst), (967, Cond.methodLink RX4 32 yX4_findParts), (988, Cond.methodLink RX4 41 yJ6_bitCount_0f7a4)] := ec_alk (by decide +kernel)
theorem bw_X4_leftAtWorst : ec_cw yX4_leftAtWorst cX4_leftAtWorst 5 (some .int) := ⟨ba_X4_leftAtWorst.1, ba_X4_leftAtWorst.2.1, nc_RX4⟩
theorem bv_X4_leftAtWorst : Cond.instanceMethod yX4_leftAtWorst ∈ ec_tb ∧ Cond.selects yX4_leftAtWorst.cls yX4_leftAtWorst yX4_leftAtWorst ∈ ec_tb := ⟨ba_X4_leftAtWorst.2.2.1, ba_X4_leftAtWorst.2.2.2.1⟩
theorem bp_X4_leftAtWorst : (parseMethodDescriptor yX4_leftAtWorst.desc).map (fun d => d.parameters.length) = some 2 := by decide +kernel
theorem bk_X4_leftAtWorst (l : Launch) : ∀ (ix n : Nat) (rc : Option Nat) (sp : ex_S), (be_X4_leftAtWorst ix).map (fun q => (q.1, q.2.1, ab_sp ab_hd q.2.2)) = some (n, rc, sp) → ex_cok l RX4 2 46 ix n rc sp := by
  intro ix n rc sp h
  obtain ⟨l0, h2, rfl⟩ := ab_dmk h
  clear h
  unfold be_X4_leftAtWorst at h2
  split at h2
  · cases h2; exact ec_cV (bm_X4_findParts l) bw_X4_findParts bv_X4_findParts (by decide) (by decide) (Or.inl ba_X4_leftAtWorst.2.2.2.2.1) (T := TX4) (N := 2) rfl (by decide) bp_X4_findParts
  · cases h2; exact ec_cS (bm_J6_bitCount_0f7a4 l) bw_J6_bitCount_0f7a4 bv_J6_bitCount_0f7a4 (by decide) (by decide) (Or.inl ba_X4_leftAtWorst.2.2.2.2.2.1) bp_J6_bitCount_0f7a4
  · cases h2
theorem bj_X4_leftAtWorst (l : Launch) : ex_ok l 2 46 bx_X4_leftAtWorst := ⟨ec_fok fo_X4, ec_cok co_X4, so_X4, bk_X4_leftAtWorst l, am_X4, ax_X4 (by decide) (by decide), ao_X4, fun _ _ h => (by cases h)⟩
theorem bm_X4_leftAtWorst (l : Launch) : ex_Met l yX4_leftAtWorst cX4_leftAtWorst 5 (some .int) 2 46 (ab_sp ab_hd bc_X4_leftAtWorst) := ab_met (by decide) pn_RX4 rfl (bj_X4_leftAtWorst l) bd_X4_leftAtWorst ab_hcm ab_xk bz_X4_leftAtWorst
theorem ba_X4_bestTest : ec_al [(983, Cond.code yX4_bestTest cX4_bestTest 9 (some .int)), (66, Cond.initialized yX4_bestTest.cls), (981, Cond.instanceMethod yX4_bestTest), (982, Cond.selects yX4_bestTest.cls yX4_bestTest yX4_bestTest), (984, Cond.methodLink RX4 37 yX4_leftAtWorst), (988, Cond.methodLink RX4 41 yJ6_bitCount_0f7a4)] := ec_alk (by decide +kernel)
theorem bw_X4_bestTest : ec_cw yX4_bestTest cX4_bestTest 9 (some .int) := ⟨ba_X4_bestTest.1, ba_X4_bestTest.2.1, nc_RX4⟩
theorem bv_X4_bestTest : Cond.instanceMethod yX4_bestTest ∈ ec_tb ∧ Cond.selects yX4_bestTest.cls yX4_bestTest yX4_bestTest ∈ ec_tb := ⟨ba_X4_bestTest.2.2.1, ba_X4_bestTest.2.2.2.1⟩
theorem bp_X4_bestTest : (parseMethodDescriptor yX4_bestTest.desc).map (fun d => d.parameters.length) = some 2 := by decide +kernel
theorem bk_X4_bestTest (l : Launch) : ∀ (ix n : Nat) (rc : Option Nat) (sp : ex_S), (be_X4_bestTest ix).map (fun q => (q.1, q.2.1, ab_sp ab_hd q.2.2)) = some (n, rc, sp) → ex_cok l RX4 3 70 ix n rc sp := by
  intro ix n rc sp h
  obtain ⟨l0, h2, rfl⟩ := ab_dmk h
  clear h
  unfold be_X4_bestTest at h2
  split at h2
  · cases h2; exact ec_cV (bm_X4_leftAtWorst l) bw_X4_leftAtWorst bv_X4_leftAtWorst (by decide) (by decide) (Or.inl ba_X4_bestTest.2.2.2.2.1) (T := TX4) (N := 2) rfl (by decide) bp_X4_leftAtWorst
  · cases h2; exact ec_cS (bm_J6_bitCount_0f7a4 l) bw_J6_bitCount_0f7a4 bv_J6_bitCount_0f7a4 (by decide) (by decide) (Or.inl ba_X4_bestTest.2.2.2.2.2.1) bp_J6_bitCount_0f7a4
  · cases h2
theorem bj_X4_bestTest (l : Launch) : ex_ok l 3 70 bx_X4_bestTest := ec_okp fo_X4 co_X4 so_X4 (bk_X4_bestTest l)
theorem bm_X4_bestTest (l : Launch) : ex_Met l yX4_bestTest cX4_bestTest 9 (some .int) 3 70 (ab_sp ab_hd bc_X4_bestTest) := ab_met (by decide) pn_RX4 rfl (bj_X4_bestTest l) bd_X4_bestTest ab_hcm ab_xk bz_X4_bestTest
theorem ba_X5_isSensor : ec_al [(1006, Cond.code yX5_isSensor cX5_isSensor 1 (some .boolean)), (67, Cond.initialized yX5_isSensor.cls), (1005, Cond.static yX5_isSensor)] := ec_alk (by decide +kernel)
theorem bw_X5_isSensor : ec_cw yX5_isSensor cX5_isSensor 1 (some .boolean) := ⟨ba_X5_isSensor.1, ba_X5_isSensor.2.1, nc_RX5⟩
theorem bv_X5_isSensor : Cond.static yX5_isSensor ∈ ec_tb := ba_X5_isSensor.2.2.1
theorem bp_X5_isSensor : (parseMethodDescriptor yX5_isSensor.desc).map (fun d => d.parameters.length) = some 1 := by decide +kernel
theorem bj_X5_isSensor (l : Launch) : ex_ok l 0 0 bx_X5_isSensor := ec_okp fo_X5 co_X5 so_X5 (ec_okn)
theorem bm_X5_isSensor (l : Launch) : ex_Met l yX5_isSensor cX5_isSensor 1 (some .boolean) 0 0 (ab_sp ab_hd bc_X5_isSensor) := ab_met (by decide) pn_RX5 rfl (bj_X5_isSensor l) bd_X5_isSensor ab_hcm ab_xk bz_X5_isSensor
theorem ba_X5_addReading : ec_al [(1003, Cond.code yX5_addReading cX5_addReading 4 (some .int)), (67, Cond.initialized yX5_addReading.cls), (1001, Cond.instanceMethod yX5_addReading), (1002, Cond.selects yX5_addReading.cls yX5_addReading yX5_addReading), (1004, Cond.methodLink RX5 37 yX5_isSensor)] := ec_alk (by decide +kernel)
theorem bw_X5_addReading : ec_cw yX5_addReading cX5_addReading 4 (some .int) := ⟨ba_X5_addReading.1, ba_X5_addReading.2.1, nc_RX5⟩
theorem bv_X5_addReading : Cond.instanceMethod yX5_addReading ∈ ec_tb ∧ Cond.selects yX5_addReading.cls yX5_addReading yX5_addReading ∈ ec_tb := ⟨ba_X5_addReading.2.2.1, ba_X5_addReading.2.2.2.1⟩
theorem bp_X5_addReading : (parseMethodDescriptor yX5_addReading.desc).map (fun d => d.parameters.length) = some 3 := by decide +kernel
theorem bk_X5_addReading (l : Launch) : ∀ (ix n : Nat) (rc : Option Nat) (sp : ex_S), (be_X5_addReading ix).map (fun q => (q.1, q.2.1, ab_sp ab_hd q.2.2)) = some (n, rc, sp) → ex_cok l RX5 1 20 ix n rc sp := by
  intro ix n rc sp h
  obtain ⟨l0, h2, rfl⟩ := ab_dmk h
  clear h
  unfold be_X5_addReading at h2
  split at h2
  · cases h2; exact ec_cS (bm_X5_isSensor l) bw_X5_isSensor bv_X5_isSensor (by decide) (by decide) (Or.inl ba_X5_addReading.2.2.2.2.1) bp_X5_isSensor
  · cases h2
theorem bj_X5_addReading (l : Launch) : ex_ok l 1 20 bx_X5_addReading := ec_okp fo_X5 co_X5 so_X5 (bk_X5_addReading l)
theorem bm_X5_addReading (l : Launch) : ex_Met l yX5_addReading cX5_addReading 4 (some .int) 1 20 (ab_sp ab_hd bc_X5_addReading) := ab_met (by decide) pn_RX5 rfl (bj_X5_addReading l) bd_X5_addReading ab_hcm ab_xk bz_X5_addReading
theorem ba_X5_addCalibration : ec_al [(1016, Cond.code yX5_addCalibration cX5_addCalibration 4 (some .int)), (67, Cond.initialized yX5_addCalibration.cls), (1014, Cond.instanceMethod yX5_addCalibration), (1015, Cond.selects yX5_addCalibration.cls yX5_addCalibration yX5_addCalibration), (1004, Cond.methodLink RX5 37 yX5_isSensor)] := ec_alk (by decide +kernel)
theorem bw_X5_addCalibration : ec_cw yX5_addCalibration cX5_addCalibration 4 (some .int) := ⟨ba_X5_addCalibration.1, ba_X5_addCalibration.2.1, nc_RX5⟩
theorem bv_X5_addCalibration : Cond.instanceMethod yX5_addCalibration ∈ ec_tb ∧ Cond.selects yX5_addCalibration.cls yX5_addCalibration yX5_addCalibration ∈ ec_tb := ⟨ba_X5_addCalibration.2.2.1, ba_X5_addCalibration.2.2.2.1⟩
theorem bp_X5_addCalibration : (parseMethodDescriptor yX5_addCalibration.desc).map (fun d => d.parameters.length) = some 3 := by decide +kernel
theorem bk_X5_addCalibration (l : Launch) : ∀ (ix n : Nat) (rc : Option Nat) (sp : ex_S), (be_X5_addCalibration ix).map (fun q => (q.1, q.2.1, ab_sp ab_hd q.2.2)) = some (n, rc, sp) → ex_cok l RX5 1 20 ix n rc sp := by
  intro ix n rc sp h
  obtain ⟨l0, h2, rfl⟩ := ab_dmk h
  clear h
  unfold be_X5_addCalibration at h2
  split at h2
  · cases h2; exact ec_cS (bm_X5_isSensor l) bw_X5_isSensor bv_X5_isSensor (by decide) (by decide) (Or.inl ba_X5_addCalibration.2.2.2.2.1) bp_X5_isSensor
  · cases h2
theorem bj_X5_addCalibration (l : Launch) : ex_ok l 1 20 bx_X5_addCalibration := ec_okp fo_X5 co_X5 so_X5 (bk_X5_addCalibration l)
theorem bm_X5_addCalibration (l : Launch) : ex_Met l yX5_addCalibration cX5_addCalibration 4 (some .int) 1 20 (ab_sp ab_hd bc_X5_addCalibration) := ab_met (by decide) pn_RX5 rfl (bj_X5_addCalibration l) bd_X5_addCalibration ab_hcm ab_xk bz_X5_addCalibration
theorem ba_X5_setDelay : ec_al [(1040, Cond.code yX5_setDelay cX5_setDelay 3 (some .int)), (67, Cond.initialized yX5_setDelay.cls), (1038, Cond.instanceMethod yX5_setDelay), (1039, Cond.selects yX5_setDelay.cls yX5_setDelay yX5_setDelay)] := ec_alk (by decide +kernel)
theorem bw_X5_setDelay : ec_cw yX5_setDelay cX5_setDelay 3 (some .int) := ⟨ba_X5_setDelay.1, ba_X5_setDelay.2.1, nc_RX5⟩
theorem bv_X5_setDelay : Cond.instanceMethod yX5_setDelay ∈ ec_tb ∧ Cond.selects yX5_setDelay.cls yX5_setDelay yX5_setDelay ∈ ec_tb := ⟨ba_X5_setDelay.2.2.1, ba_X5_setDelay.2.2.2.1⟩
theorem bp_X5_setDelay : (parseMethodDescriptor yX5_setDelay.desc).map (fun d => d.parameters.length) = some 1 := by decide +kernel
theorem bj_X5_setDelay (l : Launch) : ex_ok l 0 0 bx_X5_setDelay := ec_okp fo_X5 co_X5 so_X5 (ec_okn)
theorem bm_X5_setDelay (l : Launch) : ex_Met l yX5_setDelay cX5_setDelay 3 (some .int) 0 0 (ab_sp ab_hd bc_X5_setDelay) := ab_met (by decide) pn_RX5 rfl (bj_X5_setDelay l) bd_X5_setDelay ab_hcm ab_xk bz_X5_setDelay
theorem ba_X5_latestHeard : ec_al [(1048, Cond.code yX5_latestHeard cX5_latestHeard 4 (some .int)), (67, Cond.initialized yX5_latestHeard.cls), (1046, Cond.instanceMethod yX5_latestHeard), (1047, Cond.selects yX5_latestHeard.cls yX5_latestHeard yX5_latestHeard), (1004, Cond.methodLink RX5 37 yX5_isSensor)] := ec_alk (by decide +kernel)
theorem bw_X5_latestHeard : ec_cw yX5_latestHeard cX5_latestHeard 4 (some .int) := ⟨ba_X5_latestHeard.1, ba_X5_latestHeard.2.1, nc_RX5⟩
theorem bv_X5_latestHeard : Cond.instanceMethod yX5_latestHeard ∈ ec_tb ∧ Cond.selects yX5_latestHeard.cls yX5_latestHeard yX5_latestHeard ∈ ec_tb := ⟨ba_X5_latestHeard.2.2.1, ba_X5_latestHeard.2.2.2.1⟩
theorem bp_X5_latestHeard : (parseMethodDescriptor yX5_latestHeard.desc).map (fun d => d.parameters.length) = some 2 := by decide +kernel
theorem bk_X5_latestHeard (l : Launch) : ∀ (ix n : Nat) (rc : Option Nat) (sp : ex_S), (be_X5_latestHeard ix).map (fun q => (q.1, q.2.1, ab_sp ab_hd q.2.2)) = some (n, rc, sp) → ex_cok l RX5 1 20 ix n rc sp := by
  intro ix n rc sp h
  obtain ⟨l0, h2, rfl⟩ := ab_dmk h
  clear h
  unfold be_X5_latestHeard at h2
  split at h2
  · cases h2; exact ec_cS (bm_X5_isSensor l) bw_X5_isSensor bv_X5_isSensor (by decide) (by decide) (Or.inl ba_X5_latestHeard.2.2.2.2.1) bp_X5_isSensor
  · cases h2
theorem bj_X5_latestHeard (l : Launch) : ex_ok l 1 20 bx_X5_latestHeard := ec_okp fo_X5 co_X5 so_X5 (bk_X5_latestHeard l)
theorem bm_X5_latestHeard (l : Launch) : ex_Met l yX5_latestHeard cX5_latestHeard 4 (some .int) 1 20 (ab_sp ab_hd bc_X5_latestHeard) := ab_met (by decide) pn_RX5 rfl (bj_X5_latestHeard l) bd_X5_latestHeard ab_hcm ab_xk bz_X5_latestHeard
theorem ba_X5_between : ec_al [(1032, Cond.code yX5_between cX5_between 6 (some .int)), (67, Cond.initialized yX5_between.cls), (1031, Cond.instanceMethod yX5_between), (23, Cond.selects yX5_between.cls yX5_between yX5_between)] := ec_alk (by decide +kernel)
theorem bw_X5_between : ec_cw yX5_between cX5_between 6 (some .int) := ⟨ba_X5_between.1, ba_X5_between.2.1, nc_RX5⟩
theorem bv_X5_between : Cond.instanceMethod yX5_between ∈ ec_tb ∧ Cond.selects yX5_between.cls yX5_between yX5_between ∈ ec_tb := ⟨ba_X5_between.2.2.1, ba_X5_between.2.2.2.1⟩
theorem bp_X5_between : (parseMethodDescriptor yX5_between.desc).map (fun d => d.parameters.length) = some 3 := by decide +kernel
theorem bj_X5_between (l : Launch) : ex_ok l 0 0 bx_X5_between := ec_okp fo_X5 co_X5 so_X5 (ec_okn)
theorem bm_X5_between (l : Launch) : ex_Met l yX5_between cX5_between 6 (some .int) 0 0 (ab_sp ab_hd bc_X5_between) := ab_met (by decide) pn_RX5 rfl (bj_X5_between l) bd_X5_between ab_hcm ab_xk bz_X5_between
theorem ba_X5_tooMuch : ec_al [(1028, Cond.code yX5_tooMuch cX5_tooMuch 6 (some .int)), (67, Cond.initialized yX5_tooMuch.cls), (1027, Cond.instanceMethod yX5_tooMuch), (22, Cond.selects yX5_tooMuch.cls yX5_tooMuch yX5_tooMuch), (1029, Cond.methodLink RX5 54 yX5_between)] := ec_alk (by decide +kernel)
theorem bw_X5_tooMuch : ec_cw yX5_tooMuch cX5_tooMuch 6 (some .int) := ⟨ba_X5_tooMuch.1, ba_X5_tooMuch.2.1, nc_RX5⟩
theorem bv_X5_tooMuch : Cond.instanceMethod yX5_tooMuch ∈ ec_tb ∧ Cond.selects yX5_tooMuch.cls yX5_tooMuch yX5_tooMuch ∈ ec_tb := ⟨ba_X5_tooMuch.2.2.1, ba_X5_tooMuch.2.2.2.1⟩
theorem bp_X5_tooMuch : (parseMethodDescriptor yX5_tooMuch.desc).map (fun d => d.parameters.length) = some 2 := by decide +kernel
theorem bk_X5_tooMuch (l : Launch) : ∀ (ix n : Nat) (rc : Option Nat) (sp : ex_S), (be_X5_tooMuch ix).map (fun q => (q.1, q.2.1, ab_sp ab_hd q.2.2)) = some (n, rc, sp) → ex_cok l RX5 1 25 ix n rc sp := by
  intro ix n rc sp h
  obtain ⟨l0, h2, rfl⟩ := ab_dmk h
  clear h
  unfold be_X5_tooMuch at h2
  split at h2
  · cases h2; exact ec_cV (bm_X5_between l) bw_X5_between bv_X5_between (by decide) (by decide) (Or.inl ba_X5_tooMuch.2.2.2.2.1) (T := TX5) (N := 10) rfl (by decide) bp_X5_between
  · cases h2
theorem bj_X5_tooMuch (l : Launch) : ex_ok l 1 25 bx_X5_tooMuch := ec_okp fo_X5 co_X5 so_X5 (bk_X5_tooMuch l)
theorem bm_X5_tooMuch (l : Launch) : ex_Met l yX5_tooMuch cX5_tooMuch 6 (some .int) 1 25 (ab_sp ab_hd bc_X5_tooMuch) := ab_met (by decide) pn_RX5 rfl (bj_X5_tooMuch l) bd_X5_tooMuch ab_hcm ab_xk bz_X5_tooMuch
theorem ba_X5_workedBack : ec_al [(1024, Cond.code yX5_workedBack cX5_workedBack 2 (some .int)), (67, Cond.initialized yX5_workedBack.cls), (1022, Cond.instanceMethod yX5_workedBack), (1023, Cond.selects yX5_workedBack.cls yX5_workedBack yX5_workedBack), (1025, Cond.methodLink RX5 50 yX5_tooMuch)] := ec_alk (by decide +kernel)
theorem bw_X5_workedBack : ec_cw yX5_workedBack cX5_workedBack 2 (some .int) := ⟨ba_X5_workedBack.1, ba_X5_workedBack.2.1, nc_RX5⟩
theorem bv_X5_workedBack : Cond.instanceMethod yX5_workedBack ∈ ec_tb ∧ Cond.selects yX5_workedBack.cls yX5_workedBack yX5_workedBack ∈ ec_tb := ⟨ba_X5_workedBack.2.2.1, ba_X5_workedBack.2.2.2.1⟩
theorem bp_X5_workedBack : (parseMethodDescriptor yX5_workedBack.desc).map (fun d => d.parameters.length) = some 1 := by decide +kernel
theorem bk_X5_workedBack (l : Launch) : ∀ (ix n : Nat) (rc : Option Nat) (sp : ex_S), (be_X5_workedBack ix).map (fun q => (q.1, q.2.1, ab_sp ab_hd q.2.2)) = some (n, rc, sp) → ex_cok l RX5 2 50 ix n rc sp := by
  intro ix n rc sp h
  obtain ⟨l0, h2, rfl⟩ := ab_dmk h
  clear h
  unfold be_X5_workedBack at h2
  split at h2
  · cases h2; exact ec_cV (bm_X5_tooMuch l) bw_X5_tooMuch bv_X5_tooMuch (by decide) (by decide) (Or.inl ba_X5_workedBack.2.2.2.2.1) (T := TX5) (N := 10) rfl (by decide) bp_X5_tooMuch
  · cases h2
theorem bj_X5_workedBack (l : Launch) : ex_ok l 2 50 bx_X5_workedBack := ec_okp fo_X5 co_X5 so_X5 (bk_X5_workedBack l)
theorem bm_X5_workedBack (l : Launch) : ex_Met l yX5_workedBack cX5_workedBack 2 (some .int) 2 50 (ab_sp ab_hd bc_X5_workedBack) := ab_met (by decide) pn_RX5 rfl (bj_X5_workedBack l) bd_X5_workedBack ab_hcm ab_xk bz_X5_workedBack
theorem ba_X6_becomeLike : ec_al [(890, Cond.code yX6_becomeLike cX6_becomeLike 2 none), (63, Cond.initialized yX6_becomeLike.cls), (888, Cond.instanceMethod yX6_becomeLike), (889, Cond.selects yX6_becomeLike.cls yX6_becomeLike yX6_becomeLike)] := ec_alk (by decide +kernel)
theorem bw_X6_becomeLike : ec_cw yX6_becomeLike cX6_becomeLike 2 none := ⟨ba_X6_becomeLike.1, ba_X6_becomeLike.2.1, nc_RX6⟩
theorem bv_X6_becomeLike : Cond.instanceMethod yX6_becomeLike ∈ ec_tb ∧ Cond.selects yX6_becomeLike.cls yX6_becomeLike yX6_becomeLike ∈ ec_tb := ⟨ba_X6_becomeLike.2.2.1, ba_X6_becomeLike.2.2.2.1⟩
theorem bp_X6_becomeLike : (parseMethodDescriptor yX6_becomeLike.desc).map (fun d => d.parameters.length) = some 1 := by decide +kernel
theorem bk_X6_becomeLike (l : Launch) : ∀ (ix n : Nat) (rc : Option Nat) (sp : ex_S), (be_X6_becomeLike ix).map (fun q => (q.1, q.2.1, ab_sp ab_hd q.2.2)) = some (n, rc, sp) → ex_cok l RX6 2 47 ix n rc sp := by
  intro ix n rc sp h
  obtain ⟨l0, h2, rfl⟩ := ab_dmk h
  clear h
  unfold be_X6_becomeLike at h2
  split at h2
  · cases h2; exact ec_cS (bm_X9_copy l) bw_X9_copy bv_X9_copy (by decide) (by decide) (Or.inr ⟨"TinStation", List.mem_of_getElem? (i := 8) rfl⟩) bp_X9_copy
  · cases h2; exact ec_cS (bm_X9_copyFlags l) bw_X9_copyFlags bv_X9_copyFlags (by decide) (by decide) (Or.inr ⟨"TinStation", List.mem_of_getElem? (i := 9) rfl⟩) bp_X9_copyFlags
  · cases h2
theorem bj_X6_becomeLike (l : Launch) : ex_ok l 2 47 bx_X6_becomeLike := ec_okp fo_X6 co_X6 so_X6 (bk_X6_becomeLike l)
theorem bm_X6_becomeLike (l : Launch) : ex_Met l yX6_becomeLike cX6_becomeLike 2 none 2 47 (ab_sp ab_hd bc_X6_becomeLike) := ab_met (by decide) pn_RX6 rfl (bj_X6_becomeLike l) bd_X6_becomeLike ab_hcm ab_xk bz_X6_becomeLike
theorem ba_X6_isKind : ec_al [(562, Cond.code yX6_isKind cX6_isKind 1 (some .boolean)), (63, Cond.initialized yX6_isKind.cls), (561, Cond.static yX6_isKind)] := ec_alk (by decide +kernel)
theorem bw_X6_isKind : ec_cw yX6_isKind cX6_isKind 1 (some .boolean) := ⟨ba_X6_isKind.1, ba_X6_isKind.2.1, nc_RX6⟩
theorem bv_X6_isKind : Cond.static yX6_isKind ∈ ec_tb := ba_X6_isKind.2.2.1
theorem bp_X6_isKind : (parseMethodDescriptor yX6_isKind.desc).map (fun d => d.parameters.length) = some 1 := by decide +kernel
theorem bj_X6_isKind (l : Launch) : ex_ok l 0 0 bx_X6_isKind := ec_okp fo_X6 co_X6 so_X6 (ec_okn)
theorem bm_X6_isKind (l : Launch) : ex_Met l yX6_isKind cX6_isKind 1 (some .boolean) 0 0 (ab_sp ab_hd bc_X6_isKind) := ab_met (by decide) pn_RX6 rfl (bj_X6_isKind l) bd_X6_isKind ab_hcm ab_xk bz_X6_isKind
theorem ba_X6_isUse : ec_al [(565, Cond.code yX6_isUse cX6_isUse 1 (some .boolean)), (63, Cond.initialized yX6_isUse.cls), (564, Cond.static yX6_isUse)] := ec_alk (by decide +kernel)
theorem bw_X6_isUse : ec_cw yX6_isUse cX6_isUse 1 (some .boolean) := ⟨ba_X6_isUse.1, ba_X6_isUse.2.1, nc_RX6⟩
theorem bv_X6_isUse : Cond.static yX6_isUse ∈ ec_tb := ba_X6_isUse.2.2.1
theorem bp_X6_isUse : (parseMethodDescriptor yX6_isUse.desc).map (fun d => d.parameters.length) = some 1 := by decide +kernel
theorem bj_X6_isUse (l : Launch) : ex_ok l 0 0 bx_X6_isUse := ec_okp fo_X6 co_X6 so_X6 (ec_okn)
theorem bm_X6_isUse (l : Launch) : ex_Met l yX6_isUse cX6_isUse 1 (some .boolean) 0 0 (ab_sp ab_hd bc_X6_isUse) := ab_met (by decide) pn_RX6 rfl (bj_X6_isUse l) bd_X6_isUse ab_hcm ab_xk bz_X6_isUse
theorem ba_X6_addMachine : ec_al [(559, Cond.code yX6_addMachine cX6_addMachine 6 (some .int)), (63, Cond.initialized yX6_addMachine.cls), (557, Cond.instanceMethod yX6_addMachine), (558, Cond.selects yX6_addMachine.cls yX6_addMachine yX6_addMachine), (560, Cond.methodLink RX6 67 yX6_isKind), (563, Cond.methodLink RX6 71 yX6_isUse)] := ec_alk (by decide +kernel)
theorem bw_X6_addMachine : ec_cw yX6_addMachine cX6_addMachine 6 (some .int) := ⟨ba_X6_addMachine.1, ba_X6_addMachine.2.1, nc_RX6⟩
theorem bv_X6_addMachine : Cond.instanceMethod yX6_addMachine ∈ ec_tb ∧ Cond.selects yX6_addMachine.cls yX6_addMachine yX6_addMachine ∈ ec_tb := ⟨ba_X6_addMachine.2.2.1, ba_X6_addMachine.2.2.2.1⟩
theorem bp_X6_addMachine : (parseMethodDescriptor yX6_addMachine.desc).map (fun d => d.parameters.length) = some 4 := by decide +kernel
theorem bk_X6_addMachine (l : Launch) : ∀ (ix n : Nat) (rc : Option Nat) (sp : ex_S), (be_X6_addMachine ix).map (fun q => (q.1, q.2.1, ab_sp ab_hd q.2.2)) = some (n, rc, sp) → ex_cok l RX6 1 20 ix n rc sp := by
  intro ix n rc sp h
  obtain ⟨l0, h2, rfl⟩ := ab_dmk h
  clear h
  unfold be_X6_addMachine at h2
  split at h2
  · cases h2; exact ec_cS (bm_X6_isKind l) bw_X6_isKind bv_X6_isKind (by decide) (by decide) (Or.inl ba_X6_addMachine.2.2.2.2.1) bp_X6_isKind
  · cases h2; exact ec_cS (bm_X6_isUse l) bw_X6_isUse bv_X6_isUse (by decide) (by decide) (Or.inl ba_X6_addMachine.2.2.2.2.2.1) bp_X6_isUse
  · cases h2
theorem bj_X6_addMachine (l : Launch) : ex_ok l 1 20 bx_X6_addMachine := ec_okp fo_X6 co_X6 so_X6 (bk_X6_addMachine l)
theorem bm_X6_addMachine (l : Launch) : ex_Met l yX6_addMachine cX6_addMachine 6 (some .int) 1 20 (ab_sp ab_hd bc_X6_addMachine) := ab_met (by decide) pn_RX6 rfl (bj_X6_addMachine l) bd_X6_addMachine ab_hcm ab_xk bz_X6_addMachine
theorem ba_X6_isUnder : ec_al [(583, Cond.code yX6_isUnder cX6_isUnder 4 (some .boolean)), (63, Cond.initialized yX6_isUnder.cls), (582, Cond.static yX6_isUnder), (560, Cond.methodLink RX6 67 yX6_isKind)] := ec_alk (by decide +kernel)
theorem bw_X6_isUnder : ec_cw yX6_isUnder cX6_isUnder 4 (some .boolean) := ⟨ba_X6_isUnder.1, ba_X6_isUnder.2.1, nc_RX6⟩
theorem bv_X6_isUnder : Cond.static yX6_isUnder ∈ ec_tb := ba_X6_isUnder.2.2.1
theorem bp_X6_isUnder : (parseMethodDescriptor yX6_isUnder.desc).map (fun d => d.parameters.length) = some 2 := by decide +kernel
theorem bk_X6_isUnder (l : Launch) : ∀ (ix n : Nat) (rc : Option Nat) (sp : ex_S), (be_X6_isUnder ix).map (fun q => (q.1, q.2.1, ab_sp ab_hd q.2.2)) = some (n, rc, sp) → ex_cok l RX6 1 20 ix n rc sp := by
  intro ix n rc sp h
  obtain ⟨l0, h2, rfl⟩ := ab_dmk h
  clear h
  unfold be_X6_isUnder at h2
  split at h2
  · cases h2; exact ec_cS (bm_X6_isKind l) bw_X6_isKind bv_X6_isKind (by decide) (by decide) (Or.inl ba_X6_isUnder.2.2.2.1) bp_X6_isKind
  · cases h2
theorem bj_X6_isUnder (l : Launch) : ex_ok l 1 20 bx_X6_isUnder := ec_okp fo_X6 co_X6 so_X6 (bk_X6_isUnder l)
theorem bm_X6_isUnder (l : Launch) : ex_Met l yX6_isUnder cX6_isUnder 4 (some .boolean) 1 20 (ab_sp ab_hd bc_X6_isUnder) := ab_met (by decide) pn_RX6 rfl (bj_X6_isUnder l) bd_X6_isUnder ab_hcm ab_xk bz_X6_isUnder
theorem ba_X6_rateAs : ec_al [(576, Cond.code yX6_rateAs cX6_rateAs 3 (some .int)), (63, Cond.initialized yX6_rateAs.cls), (574, Cond.instanceMethod yX6_rateAs), (575, Cond.selects yX6_rateAs.cls yX6_rateAs yX6_rateAs), (577, Cond.methodLink RX6 77 yX6_has), (560, Cond.methodLink RX6 67 yX6_isKind), (581, Cond.methodLink RX6 80 yX6_isUnder)] := ec_alk (by decide +kernel)
theorem bw_X6_rateAs : ec_cw yX6_rateAs cX6_rateAs 3 (some .int) := ⟨ba_X6_rateAs.1, ba_X6_rateAs.2.1, nc_RX6⟩
theorem bv_X6_rateAs : Cond.instanceMethod yX6_rateAs ∈ ec_tb ∧ Cond.selects yX6_rateAs.cls yX6_rateAs yX6_rateAs ∈ ec_tb := ⟨ba_X6_rateAs.2.2.1, ba_X6_rateAs.2.2.2.1⟩
theorem bp_X6_rateAs : (parseMethodDescriptor yX6_rateAs.desc).map (fun d => d.parameters.length) = some 2 := by decide +kernel
theorem bk_X6_rateAs (l : Launch) : ∀ (ix n : Nat) (rc : Option Nat) (sp : ex_S), (be_X6_rateAs ix).map (fun q => (q.1, q.2.1, ab_sp ab_hd q.2.2)) = some (n, rc, sp) → ex_cok l RX6 2 43 ix n rc sp := by
  intro ix n rc sp h
  obtain ⟨l0, h2, rfl⟩ := ab_dmk h
  clear h
  unfold be_X6_rateAs at h2
  split at h2
  · cases h2; exact ec_cV (bm_X6_has l) bw_X6_has bv_X6_has (by decide) (by decide) (Or.inl ba_X6_rateAs.2.2.2.2.1) (T := TX6) (N := 15) rfl (by decide) bp_X6_has
  · cases h2; exact ec_cS (bm_X6_isKind l) bw_X6_isKind bv_X6_isKind (by decide) (by decide) (Or.inl ba_X6_rateAs.2.2.2.2.2.1) bp_X6_isKind
  · cases h2; exact ec_cS (bm_X6_isUnder l) bw_X6_isUnder bv_X6_isUnder (by decide) (by decide) (Or.inl ba_X6_rateAs.2.2.2.2.2.2.1) bp_X6_isUnder
  · cases h2
theorem bj_X6_rateAs (l : Launch) : ex_ok l 2 43 bx_X6_rateAs := ec_okp fo_X6 co_X6 so_X6 (bk_X6_rateAs l)
theorem bm_X6_rateAs (l : Launch) : ex_Met l yX6_rateAs cX6_rateAs 3 (some .int) 2 43 (ab_sp ab_hd bc_X6_rateAs) := ab_met (by decide) pn_RX6 rfl (bj_X6_rateAs l) bd_X6_rateAs ab_hcm ab_xk bz_X6_rateAs
theorem ba_X6_setOn : ec_al [(594, Cond.code yX6_setOn cX6_setOn 4 (some .int)), (63, Cond.initialized yX6_setOn.cls), (592, Cond.instanceMethod yX6_setOn), (593, Cond.selects yX6_setOn.cls yX6_setOn yX6_setOn), (577, Cond.methodLink RX6 77 yX6_has)] := ec_alk (by decide +kernel)
theorem bw_X6_setOn : ec_cw yX6_setOn cX6_setOn 4 (some .int) := ⟨ba_X6_setOn.1, ba_X6_setOn.2.1, nc_RX6⟩
theorem bv_X6_setOn : Cond.instanceMethod yX6_setOn ∈ ec_tb ∧ Cond.selects yX6_setOn.cls yX6_setOn yX6_setOn ∈ ec_tb := ⟨ba_X6_setOn.2.2.1, ba_X6_setOn.2.2.2.1⟩
theorem bp_X6_setOn : (parseMethodDescriptor yX6_setOn.desc).map (fun d => d.parameters.length) = some 2 := by decide +kernel
theorem bk_X6_setOn (l : Launch) : ∀ (ix n : Nat) (rc : Option Nat) (sp : ex_S), (be_X6_setOn ix).map (fun q => (q.1, q.2.1, ab_sp ab_hd q.2.2)) = some (n, rc, sp) → ex_cok l RX6 1 21 ix n rc sp := by
  intro ix n rc sp h
  obtain ⟨l0, h2, rfl⟩ := ab_dmk h
  clear h
  unfold be_X6_setOn at h2
  split at h2
  · cases h2; exact ec_cV (bm_X6_has l) bw_X6_has bv_X6_has (by decide) (by decide) (Or.inl ba_X6_setOn.2.2.2.2.1) (T := TX6) (N := 15) rfl (by decide) bp_X6_has
  · cases h2; exact ec_cS (bm_X9_isSwitch l) bw_X9_isSwitch bv_X9_isSwitch (by decide) (by decide) (Or.inr ⟨"TinStation", List.mem_of_getElem? (i := 10) rfl⟩) bp_X9_isSwitch
  · cases h2; exact ec_cS (bm_X9_one l) bw_X9_one bv_X9_one (by decide) (by decide) (Or.inr ⟨"TinStation", List.mem_of_getElem? (i := 11) rfl⟩) bp_X9_one
  · cases h2
theorem bj_X6_setOn (l : Launch) : ex_ok l 1 21 bx_X6_setOn := ec_okp fo_X6 co_X6 so_X6 (bk_X6_setOn l)
theorem bm_X6_setOn (l : Launch) : ex_Met l yX6_setOn cX6_setOn 4 (some .int) 1 21 (ab_sp ab_hd bc_X6_setOn) := ab_met (by decide) pn_RX6 rfl (bj_X6_setOn l) bd_X6_setOn ab_hcm ab_xk bz_X6_setOn
theorem ba_X6_tellOf : ec_al [(604, Cond.code yX6_tellOf cX6_tellOf 3 (some .int)), (63, Cond.initialized yX6_tellOf.cls), (602, Cond.instanceMethod yX6_tellOf), (603, Cond.selects yX6_tellOf.cls yX6_tellOf yX6_tellOf), (577, Cond.methodLink RX6 77 yX6_has)] := ec_alk (by decide +kernel)
theorem bw_X6_tellOf : ec_cw yX6_tellOf cX6_tellOf 3 (some .int) := ⟨ba_X6_tellOf.1, ba_X6_tellOf.2.1, nc_RX6⟩
theorem bv_X6_tellOf : Cond.instanceMethod yX6_tellOf ∈ ec_tb ∧ Cond.selects yX6_tellOf.cls yX6_tellOf yX6_tellOf ∈ ec_tb := ⟨ba_X6_tellOf.2.2.1, ba_X6_tellOf.2.2.2.1⟩
theorem bp_X6_tellOf : (parseMethodDescriptor yX6_tellOf.desc).map (fun d => d.parameters.length) = some 2 := by decide +kernel
theorem bk_X6_tellOf (l : Launch) : ∀ (ix n : Nat) (rc : Option Nat) (sp : ex_S), (be_X6_tellOf ix).map (fun q => (q.1, q.2.1, ab_sp ab_hd q.2.2)) = some (n, rc, sp) → ex_cok l RX6 1 21 ix n rc sp := by
  intro ix n rc sp h
  obtain ⟨l0, h2, rfl⟩ := ab_dmk h
  clear h
  unfold be_X6_tellOf at h2
  split at h2
  · cases h2; exact ec_cV (bm_X6_has l) bw_X6_has bv_X6_has (by decide) (by decide) (Or.inl ba_X6_tellOf.2.2.2.2.1) (T := TX6) (N := 15) rfl (by decide) bp_X6_has
  · cases h2; exact ec_cS (bm_X9_one l) bw_X9_one bv_X9_one (by decide) (by decide) (Or.inr ⟨"TinStation", List.mem_of_getElem? (i := 11) rfl⟩) bp_X9_one
  · cases h2
theorem bj_X6_tellOf (l : Launch) : ex_ok l 1 21 bx_X6_tellOf := ec_okp fo_X6 co_X6 so_X6 (bk_X6_tellOf l)
theorem bm_X6_tellOf (l : Launch) : ex_Met l yX6_tellOf cX6_tellOf 3 (some .int) 1 21 (ab_sp ab_hd bc_X6_tellOf) := ab_met (by decide) pn_RX6 rfl (bj_X6_tellOf l) bd_X6_tellOf ab_hcm ab_xk bz_X6_tellOf
theorem ba_X6_setSpares : ec_al [(612, Cond.code yX6_setSpares cX6_setSpares 4 (some .int)), (63, Cond.initialized yX6_setSpares.cls), (610, Cond.instanceMethod yX6_setSpares), (611, Cond.selects yX6_setSpares.cls yX6_setSpares yX6_setSpares), (560, Cond.methodLink RX6 67 yX6_isKind)] := ec_alk (by decide +kernel)
theorem bw_X6_setSpares : ec_cw yX6_setSpares cX6_setSpares 4 (some .int) := ⟨ba_X6_setSpares.1, ba_X6_setSpares.2.1, nc_RX6⟩
theorem bv_X6_setSpares : Cond.instanceMethod yX6_setSpares ∈ ec_tb ∧ Cond.selects yX6_setSpares.cls yX6_setSpares yX6_setSpares ∈ ec_tb := ⟨ba_X6_setSpares.2.2.1, ba_X6_setSpares.2.2.2.1⟩
theorem bp_X6_setSpares : (parseMethodDescriptor yX6_setSpares.desc).map (fun d => d.parameters.length) = some 2 := by decide +kernel
theorem bk_X6_setSpares (l : Launch) : ∀ (ix n : Nat) (rc : Option Nat) (sp : ex_S), (be_X6_setSpares ix).map (fun q => (q.1, q.2.1, ab_sp ab_hd q.2.2)) = some (n, rc, sp) → ex_cok l RX6 1 20 ix n rc sp := by
  intro ix n rc sp h
  obtain ⟨l0, h2, rfl⟩ := ab_dmk h
  clear h
  unfold be_X6_setSpares at h2
  split at h2
  · cases h2; exact ec_cS (bm_X6_isKind l) bw_X6_isKind bv_X6_isKind (by decide) (by decide) (Or.inl ba_X6_setSpares.2.2.2.2.1) bp_X6_isKind
  · cases h2
theorem bj_X6_setSpares (l : Launch) : ex_ok l 1 20 bx_X6_setSpares := ec_okp fo_X6 co_X6 so_X6 (bk_X6_setSpares l)
theorem bm_X6_setSpares (l : Launch) : ex_Met l yX6_setSpares cX6_setSpares 4 (some .int) 1 20 (ab_sp ab_hd bc_X6_setSpares) := ab_met (by decide) pn_RX6 rfl (bj_X6_setSpares l) bd_X6_setSpares ab_hcm ab_xk bz_X6_setSpares
theorem ba_X6_setSun : ec_al [(668, Cond.code yX6_setSun cX6_setSun 3 (some .int)), (63, Cond.initialized yX6_setSun.cls), (666, Cond.instanceMethod yX6_setSun), (667, Cond.selects yX6_setSun.cls yX6_setSun yX6_setSun)] := ec_alk (by decide +kernel)
theorem bw_X6_setSun : ec_cw yX6_setSun cX6_setSun 3 (some .int) := ⟨ba_X6_setSun.1, ba_X6_setSun.2.1, nc_RX6⟩
theorem bv_X6_setSun : Cond.instanceMethod yX6_setSun ∈ ec_tb ∧ Cond.selects yX6_setSun.cls yX6_setSun yX6_setSun ∈ ec_tb := ⟨ba_X6_setSun.2.2.1, ba_X6_setSun.2.2.2.1⟩
theorem bp_X6_setSun : (parseMethodDescriptor yX6_setSun.desc).map (fun d => d.parameters.length) = some 2 := by decide +kernel
theorem bj_X6_setSun (l : Launch) : ex_ok l 1 21 bx_X6_setSun := ⟨ec_fok fo_X6, ec_cok co_X6, so_X6, ec_okn, am_X6 (by decide) (by decide), ax_X6, ao_X6, fun _ _ h => (by cases h)⟩
theorem bm_X6_setSun (l : Launch) : ex_Met l yX6_setSun cX6_setSun 3 (some .int) 1 21 (ab_sp ab_hd bc_X6_setSun) := ab_met (by decide) pn_RX6 rfl (bj_X6_setSun l) bd_X6_setSun ab_hcm ab_xk bz_X6_setSun
theorem ba_X6_setBattery : ec_al [(679, Cond.code yX6_setBattery cX6_setBattery 3 (some .int)), (63, Cond.initialized yX6_setBattery.cls), (677, Cond.instanceMethod yX6_setBattery), (678, Cond.selects yX6_setBattery.cls yX6_setBattery yX6_setBattery)] := ec_alk (by decide +kernel)
theorem bw_X6_setBattery : ec_cw yX6_setBattery cX6_setBattery 3 (some .int) := ⟨ba_X6_setBattery.1, ba_X6_setBattery.2.1, nc_RX6⟩
theorem bv_X6_setBattery : Cond.instanceMethod yX6_setBattery ∈ ec_tb ∧ Cond.selects yX6_setBattery.cls yX6_setBattery yX6_setBattery ∈ ec_tb := ⟨ba_X6_setBattery.2.2.1, ba_X6_setBattery.2.2.2.1⟩
theorem bp_X6_setBattery : (parseMethodDescriptor yX6_setBattery.desc).map (fun d => d.parameters.length) = some 1 := by decide +kernel
theorem bj_X6_setBattery (l : Launch) : ex_ok l 0 0 bx_X6_setBattery := ec_okp fo_X6 co_X6 so_X6 (ec_okn)
theorem bm_X6_setBattery (l : Launch) : ex_Met l yX6_setBattery cX6_setBattery 3 (some .int) 0 0 (ab_sp ab_hd bc_X6_setBattery) := ab_met (by decide) pn_RX6 rfl (bj_X6_setBattery l) bd_X6_setBattery ab_hcm ab_xk bz_X6_setBattery
theorem ba_X6_isReady : ec_al [(650, Cond.code yX6_isReady cX6_isReady 2 (some .boolean)), (63, Cond.initialized yX6_isReady.cls), (649, Cond.instanceMethod yX6_isReady), (3, Cond.selects yX6_isReady.cls yX6_isReady yX6_isReady)] := ec_alk (by decide +kernel)
theorem bw_X6_isReady : ec_cw yX6_isReady cX6_isReady 2 (some .boolean) := ⟨ba_X6_isReady.1, ba_X6_isReady.2.1, nc_RX6⟩
theorem bv_X6_isReady : Cond.instanceMethod yX6_isReady ∈ ec_tb ∧ Cond.selects yX6_isReady.cls yX6_isReady yX6_isReady ∈ ec_tb := ⟨ba_X6_isReady.2.2.1, ba_X6_isReady.2.2.2.1⟩
theorem bp_X6_isReady : (parseMethodDescriptor yX6_isReady.desc).map (fun d => d.parameters.length) = some 1 := by decide +kernel
theorem bj_X6_isReady (l : Launch) : ex_ok l 0 0 bx_X6_isReady := ec_okp fo_X6 co_X6 so_X6 (ec_okn)
theorem bm_X6_isReady (l : Launch) : ex_Met l yX6_isReady cX6_isReady 2 (some .boolean) 0 0 (ab_sp ab_hd bc_X6_isReady) := ab_met (by decide) pn_RX6 rfl (bj_X6_isReady l) bd_X6_isReady ab_hcm ab_xk bz_X6_isReady
theorem ba_X6_sharePower : ec_al [(764, Cond.code yX6_sharePower cX6_sharePower 5 none), (63, Cond.initialized yX6_sharePower.cls), (762, Cond.instanceMethod yX6_sharePower), (763, Cond.selects yX6_sharePower.cls yX6_sharePower yX6_sharePower), (647, Cond.methodLink RX6 101 yX6_isReady)] := ec_alk (by decide +kernel)
theorem bw_X6_sharePower : ec_cw yX6_sharePower cX6_sharePower 5 none := ⟨ba_X6_sharePower.1, ba_X6_sharePower.2.1, nc_RX6⟩
theorem bv_X6_sharePower : Cond.instanceMethod yX6_sharePower ∈ ec_tb ∧ Cond.selects yX6_sharePower.cls yX6_sharePower yX6_sharePower ∈ ec_tb := ⟨ba_X6_sharePower.2.2.1, ba_X6_sharePower.2.2.2.1⟩
theorem bp_X6_sharePower : (parseMethodDescriptor yX6_sharePower.desc).map (fun d => d.parameters.length) = some 1 := by decide +kernel
theorem bk_X6_sharePower (l : Launch) : ∀ (ix n : Nat) (rc : Option Nat) (sp : ex_S), (be_X6_sharePower ix).map (fun q => (q.1, q.2.1, ab_sp ab_hd q.2.2)) = some (n, rc, sp) → ex_cok l RX6 1 21 ix n rc sp := by
  intro ix n rc sp h
  obtain ⟨l0, h2, rfl⟩ := ab_dmk h
  clear h
  unfold be_X6_sharePower at h2
  split at h2
  · cases h2; exact ec_cV (bm_X6_isReady l) bw_X6_isReady bv_X6_isReady (by decide) (by decide) (Or.inl ba_X6_sharePower.2.2.2.2.1) (T := TX6) (N := 15) rfl (by decide) bp_X6_isReady
  · cases h2
theorem bj_X6_sharePower (l : Launch) : ex_ok l 1 21 bx_X6_sharePower := ⟨ec_fok fo_X6, ec_cok co_X6, so_X6, bk_X6_sharePower l, am_X6 (by decide) (by decide), ax_X6, ao_X6, fun _ _ h => (by cases h)⟩
theorem bm_X6_sharePower (l : Launch) : ex_Met l yX6_sharePower cX6_sharePower 5 none 1 21 (ab_sp ab_hd bc_X6_sharePower) := ab_met (by decide) pn_RX6 rfl (bj_X6_sharePower l) bd_X6_sharePower ab_hcm ab_xk bz_X6_sharePower
theorem ba_X6_split : ec_al [(785, Cond.code yX6_split cX6_split 5 none), (63, Cond.initialized yX6_split.cls), (784, Cond.instanceMethod yX6_split), (12, Cond.selects yX6_split.cls yX6_split yX6_split), (786, Cond.methodLink RX6 128 yX0_draw), (790, Cond.methodLink RX6 108 yX0_give), (778, Cond.methodLink RX6 118 yX0_fill)] := ec_alk (by decide +kernel)
theorem bw_X6_split : ec_cw yX6_split cX6_split 5 none := ⟨ba_X6_split.1, ba_X6_split.2.1, nc_RX6⟩
theorem bv_X6_split : Cond.instanceMethod yX6_split ∈ ec_tb ∧ Cond.selects yX6_split.cls yX6_split yX6_split ∈ ec_tb := ⟨ba_X6_split.2.2.1, ba_X6_split.2.2.2.1⟩
theorem bp_X6_split : (parseMethodDescriptor yX6_split.desc).map (fun d => d.parameters.length) = some 2 := by decide +kernel
theorem bk_X6_split (l : Launch) : ∀ (ix n : Nat) (rc : Option Nat) (sp : ex_S), (be_X6_split ix).map (fun q => (q.1, q.2.1, ab_sp ab_hd q.2.2)) = some (n, rc, sp) → ex_cok l RX6 2 44 ix n rc sp := by
  intro ix n rc sp h
  obtain ⟨l0, h2, rfl⟩ := ab_dmk h
  clear h
  unfold be_X6_split at h2
  split at h2
  · cases h2; exact ec_cV (bm_X0_draw l) bw_X0_draw bv_X0_draw (by decide) (by decide) (Or.inl ba_X6_split.2.2.2.2.1) (T := TX0) (N := 8) rfl (by decide) bp_X0_draw
  · cases h2; exact ec_cV (bm_X0_give l) bw_X0_give bv_X0_give (by decide) (by decide) (Or.inl ba_X6_split.2.2.2.2.2.1) (T := TX0) (N := 8) rfl (by decide) bp_X0_give
  · cases h2; exact ec_cV (bm_X0_fill l) bw_X0_fill bv_X0_fill (by decide) (by decide) (Or.inl ba_X6_split.2.2.2.2.2.2.1) (T := TX0) (N := 8) rfl (by decide) bp_X0_fill
  · cases h2
theorem bj_X6_split (l : Launch) : ex_ok l 2 44 bx_X6_split := ec_okp fo_X6 co_X6 so_X6 (bk_X6_split l)
theorem bm_X6_split (l : Launch) : ex_Met l yX6_split cX6_split 5 none 2 44 (ab_sp ab_hd bc_X6_split) := ab_met (by decide) pn_RX6 rfl (bj_X6_split l) bd_X6_split ab_hcm ab_xk bz_X6_split
theorem ba_X6_distil : ec_al [(797, Cond.code yX6_distil cX6_distil 5 none), (63, Cond.initialized yX6_distil.cls), (796, Cond.instanceMethod yX6_distil), (13, Cond.selects yX6_distil.cls yX6_distil yX6_distil), (786, Cond.methodLink RX6 128 yX0_draw), (778, Cond.methodLink RX6 118 yX0_fill)] := ec_alk (by decide +kernel)
theorem bw_X6_distil : ec_cw yX6_distil cX6_distil 5 none := ⟨ba_X6_distil.1, ba_X6_distil.2.1, nc_RX6⟩
theorem bv_X6_distil : Cond.instanceMethod yX6_distil ∈ ec_tb ∧ Cond.selects yX6_distil.cls yX6_distil yX6_distil ∈ ec_tb := ⟨ba_X6_distil.2.2.1, ba_X6_distil.2.2.2.1⟩
theorem bp_X6_distil : (parseMethodDescriptor yX6_distil.desc).map (fun d => d.parameters.length) = some 2 := by decide +kernel
theorem bk_X6_distil (l : Launch) : ∀ (ix n : Nat) (rc : Option Nat) (sp : ex_S), (be_X6_distil ix).map (fun q => (q.1, q.2.1, ab_sp ab_hd q.2.2)) = some (n, rc, sp) → ex_cok l RX6 2 44 ix n rc sp := by
  intro ix n rc sp h
  obtain ⟨l0, h2, rfl⟩ := ab_dmk h
  clear h
  unfold be_X6_distil at h2
  split at h2
  · cases h2; exact ec_cV (bm_X0_draw l) bw_X0_draw bv_X0_draw (by decide) (by decide) (Or.inl ba_X6_distil.2.2.2.2.1) (T := TX0) (N := 8) rfl (by decide) bp_X0_draw
  · cases h2; exact ec_cV (bm_X0_fill l) bw_X0_fill bv_X0_fill (by decide) (by decide) (Or.inl ba_X6_distil.2.2.2.2.2.1) (T := TX0) (N := 8) rfl (by decide) bp_X0_fill
  · cases h2
theorem bj_X6_distil (l : Launch) : ex_ok l 2 44 bx_X6_distil := ec_okp fo_X6 co_X6 so_X6 (bk_X6_distil l)
theorem bm_X6_distil (l : Launch) : ex_Met l yX6_distil cX6_distil 5 none 2 44 (ab_sp ab_hd bc_X6_distil) := ab_met (by decide) pn_RX6 rfl (bj_X6_distil l) bd_X6_distil ab_hcm ab_xk bz_X6_distil
theorem ba_X6_work : ec_al [(772, Cond.code yX6_work cX6_work 3 none), (63, Cond.initialized yX6_work.cls), (771, Cond.instanceMethod yX6_work), (11, Cond.selects yX6_work.cls yX6_work yX6_work), (773, Cond.methodLink RX6 114 yX0_take), (778, Cond.methodLink RX6 118 yX0_fill), (782, Cond.methodLink RX6 122 yX6_split), (794, Cond.methodLink RX6 125 yX6_distil)] := ec_alk (by decide +kernel)
theorem bw_X6_work : ec_cw yX6_work cX6_work 3 none := ⟨ba_X6_work.1, ba_X6_work.2.1, nc_RX6⟩
theorem bv_X6_work : Cond.instanceMethod yX6_work ∈ ec_tb ∧ Cond.selects yX6_work.cls yX6_work yX6_work ∈ ec_tb := ⟨ba_X6_work.2.2.1, ba_X6_work.2.2.2.1⟩
theorem bp_X6_work : (parseMethodDescriptor yX6_work.desc).map (fun d => d.parameters.length) = some 2 := by decide +kernel
theorem bk_X6_work (l : Launch) : ∀ (ix n : Nat) (rc : Option Nat) (sp : ex_S), (be_X6_work ix).map (fun q => (q.1, q.2.1, ab_sp ab_hd q.2.2)) = some (n, rc, sp) → ex_cok l RX6 3 68 ix n rc sp := by
  intro ix n rc sp h
  obtain ⟨l0, h2, rfl⟩ := ab_dmk h
  clear h
  unfold be_X6_work at h2
  split at h2
  · cases h2; exact ec_cV (bm_X0_take l) bw_X0_take bv_X0_take (by decide) (by decide) (Or.inl ba_X6_work.2.2.2.2.1) (T := TX0) (N := 8) rfl (by decide) bp_X0_take
  · cases h2; exact ec_cV (bm_X0_fill l) bw_X0_fill bv_X0_fill (by decide) (by decide) (Or.inl ba_X6_work.2.2.2.2.2.1) (T := TX0) (N := 8) rfl (by decide) bp_X0_fill
  · cases h2; exact ec_cV (bm_X6_split l) bw_X6_split bv_X6_split (by decide) (by decide) (Or.inl ba_X6_work.2.2.2.2.2.2.1) (T := TX6) (N := 15) rfl (by decide) bp_X6_split
  · cases h2; exact ec_cV (bm_X6_distil l) bw_X6_distil bv_X6_distil (by decide) (by decide) (Or.inl ba_X6_work.2.2.2.2.2.2.2.1) (T := TX6) (N := 15) rfl (by decide) bp_X6_distil
  · cases h2
theorem bj_X6_work (l : Launch) : ex_ok l 3 68 bx_X6_work := ec_okp fo_X6 co_X6 so_X6 (bk_X6_work l)
theorem bm_X6_work (l : Launch) : ex_Met l yX6_work cX6_work 3 none 3 68 (ab_sp ab_hd bc_X6_work) := ab_met (by decide) pn_RX6 rfl (bj_X6_work l) bd_X6_work ab_hcm ab_xk bz_X6_work
theorem ba_X6_workAll : ec_al [(768, Cond.code yX6_workAll cX6_workAll 3 none), (63, Cond.initialized yX6_workAll.cls), (766, Cond.instanceMethod yX6_workAll), (767, Cond.selects yX6_workAll.cls yX6_workAll yX6_workAll), (769, Cond.methodLink RX6 104 yX6_work), (790, Cond.methodLink RX6 108 yX0_give)] := ec_alk (by decide +kernel)
theorem bw_X6_workAll : ec_cw yX6_workAll cX6_workAll 3 none := ⟨ba_X6_workAll.1, ba_X6_workAll.2.1, nc_RX6⟩
theorem bv_X6_workAll : Cond.instanceMethod yX6_workAll ∈ ec_tb ∧ Cond.selects yX6_workAll.cls yX6_workAll yX6_workAll ∈ ec_tb := ⟨ba_X6_workAll.2.2.1, ba_X6_workAll.2.2.2.1⟩
theorem bp_X6_workAll : (parseMethodDescriptor yX6_workAll.desc).map (fun d => d.parameters.length) = some 1 := by decide +kernel
theorem bk_X6_workAll (l : Launch) : ∀ (ix n : Nat) (rc : Option Nat) (sp : ex_S), (be_X6_workAll ix).map (fun q => (q.1, q.2.1, ab_sp ab_hd q.2.2)) = some (n, rc, sp) → ex_cok l RX6 4 90 ix n rc sp := by
  intro ix n rc sp h
  obtain ⟨l0, h2, rfl⟩ := ab_dmk h
  clear h
  unfold be_X6_workAll at h2
  split at h2
  · cases h2; exact ec_cV (bm_X6_work l) bw_X6_work bv_X6_work (by decide) (by decide) (Or.inl ba_X6_workAll.2.2.2.2.1) (T := TX6) (N := 15) rfl (by decide) bp_X6_work
  · cases h2; exact ec_cV (bm_X0_give l) bw_X0_give bv_X0_give (by decide) (by decide) (Or.inl ba_X6_workAll.2.2.2.2.2.1) (T := TX0) (N := 8) rfl (by decide) bp_X0_give
  · cases h2
theorem bj_X6_workAll (l : Launch) : ex_ok l 4 90 bx_X6_workAll := ec_okp fo_X6 co_X6 so_X6 (bk_X6_workAll l)
theorem bm_X6_workAll (l : Launch) : ex_Met l yX6_workAll cX6_workAll 3 none 4 90 (ab_sp ab_hd bc_X6_workAll) := ab_met (by decide) pn_RX6 rfl (bj_X6_workAll l) bd_X6_workAll ab_hcm ab_xk bz_X6_workAll
theorem ba_X6_readySet : ec_al [(646, Cond.code yX6_readySet cX6_readySet 3 (some .int)), (63, Cond.initialized yX6_readySet.cls), (645, Cond.instanceMethod yX6_readySet), (2, Cond.selects yX6_readySet.cls yX6_readySet yX6_readySet), (647, Cond.methodLink RX6 101 yX6_isReady)] := ec_alk (by decide +kernel)
theorem bw_X6_readySet : ec_cw yX6_readySet cX6_readySet 3 (some .int) := ⟨ba_X6_readySet.1, ba_X6_readySet.2.1, nc_RX6⟩
theorem bv_X6_readySet : Cond.instanceMethod yX6_readySet ∈ ec_tb ∧ Cond.selects yX6_readySet.cls yX6_readySet yX6_readySet ∈ ec_tb := ⟨ba_X6_readySet.2.2.1, ba_X6_readySet.2.2.2.1⟩
theorem bp_X6_readySet : (parseMethodDescriptor yX6_readySet.desc).map (fun d => d.parameters.length) = some 0 := by decide +kernel
theorem bk_X6_readySet (l : Launch) : ∀ (ix n : Nat) (rc : Option Nat) (sp : ex_S), (be_X6_readySet ix).map (fun q => (q.1, q.2.1, ab_sp ab_hd q.2.2)) = some (n, rc, sp) → ex_cok l RX6 1 21 ix n rc sp := by
  intro ix n rc sp h
  obtain ⟨l0, h2, rfl⟩ := ab_dmk h
  clear h
  unfold be_X6_readySet at h2
  split at h2
  · cases h2; exact ec_cV (bm_X6_isReady l) bw_X6_isReady bv_X6_isReady (by decide) (by decide) (Or.inl ba_X6_readySet.2.2.2.2.1) (T := TX6) (N := 15) rfl (by decide) bp_X6_isReady
  · cases h2
theorem bj_X6_readySet (l : Launch) : ex_ok l 1 21 bx_X6_readySet := ec_okp fo_X6 co_X6 so_X6 (bk_X6_readySet l)
theorem bm_X6_readySet (l : Launch) : ex_Met l yX6_readySet cX6_readySet 3 (some .int) 1 21 (ab_sp ab_hd bc_X6_readySet) := ab_met (by decide) pn_RX6 rfl (bj_X6_readySet l) bd_X6_readySet ab_hcm ab_xk bz_X6_readySet
theorem ba_X6_sumOver : ec_al [(654, Cond.code yX6_sumOver cX6_sumOver 5 (some .int)), (63, Cond.initialized yX6_sumOver.cls), (653, Cond.instanceMethod yX6_sumOver), (4, Cond.selects yX6_sumOver.cls yX6_sumOver yX6_sumOver)] := ec_alk (by decide +kernel)
theorem bw_X6_sumOver : ec_cw yX6_sumOver cX6_sumOver 5 (some .int) := ⟨ba_X6_sumOver.1, ba_X6_sumOver.2.1, nc_RX6⟩
theorem bv_X6_sumOver : Cond.instanceMethod yX6_sumOver ∈ ec_tb ∧ Cond.selects yX6_sumOver.cls yX6_sumOver yX6_sumOver ∈ ec_tb := ⟨ba_X6_sumOver.2.2.1, ba_X6_sumOver.2.2.2.1⟩
theorem bp_X6_sumOver : (parseMethodDescriptor yX6_sumOver.desc).map (fun d => d.parameters.length) = some 2 := by decide +kernel
theorem bj_X6_sumOver (l : Launch) : ex_ok l 0 0 bx_X6_sumOver := ec_okp fo_X6 co_X6 so_X6 (ec_okn)
theorem bm_X6_sumOver (l : Launch) : ex_Met l yX6_sumOver cX6_sumOver 5 (some .int) 0 0 (ab_sp ab_hd bc_X6_sumOver) := ab_met (by decide) pn_RX6 rfl (bj_X6_sumOver l) bd_X6_sumOver ab_hcm ab_xk bz_X6_sumOver
theorem ba_X6_leastHarm : ec_al [(642, Cond.code yX6_leastHarm cX6_leastHarm 8 (some .int)), (63, Cond.initialized yX6_leastHarm.cls), (641, Cond.instanceMethod yX6_leastHarm), (1, Cond.selects yX6_leastHarm.cls yX6_leastHarm yX6_leastHarm), (643, Cond.methodLink RX6 139 yX6_readySet), (651, Cond.methodLink RX6 135 yX6_sumOver), (655, Cond.methodLink RX6 143 yJ6_bitCount_0f7a4)] := ec_alk (by decide +kernel)
theorem bw_X6_leastHarm : ec_cw yX6_leastHarm cX6_leastHarm 8 (some .int) := ⟨ba_X6_leastHarm.1, ba_X6_leastHarm.2.1, nc_RX6⟩
theorem bv_X6_leastHarm : Cond.instanceMethod yX6_leastHarm ∈ ec_tb ∧ Cond.selects yX6_leastHarm.cls yX6_leastHarm yX6_leastHarm ∈ ec_tb := ⟨ba_X6_leastHarm.2.2.1, ba_X6_leastHarm.2.2.2.1⟩
theorem bp_X6_leastHarm : (parseMethodDescriptor yX6_leastHarm.desc).map (fun d => d.parameters.length) = some 1 := by decide +kernel
theorem bk_X6_leastHarm (l : Launch) : ∀ (ix n : Nat) (rc : Option Nat) (sp : ex_S), (be_X6_leastHarm ix).map (fun q => (q.1, q.2.1, ab_sp ab_hd q.2.2)) = some (n, rc, sp) → ex_cok l RX6 2 43 ix n rc sp := by
  intro ix n rc sp h
  obtain ⟨l0, h2, rfl⟩ := ab_dmk h
  clear h
  unfold be_X6_leastHarm at h2
  split at h2
  · cases h2; exact ec_cV (bm_X6_readySet l) bw_X6_readySet bv_X6_readySet (by decide) (by decide) (Or.inl ba_X6_leastHarm.2.2.2.2.1) (T := TX6) (N := 15) rfl (by decide) bp_X6_readySet
  · cases h2; exact ec_cV (bm_X6_sumOver l) bw_X6_sumOver bv_X6_sumOver (by decide) (by decide) (Or.inl ba_X6_leastHarm.2.2.2.2.2.1) (T := TX6) (N := 15) rfl (by decide) bp_X6_sumOver
  · cases h2; exact ec_cS (bm_J6_bitCount_0f7a4 l) bw_J6_bitCount_0f7a4 bv_J6_bitCount_0f7a4 (by decide) (by decide) (Or.inl ba_X6_leastHarm.2.2.2.2.2.2.1) bp_J6_bitCount_0f7a4
  · cases h2
theorem bj_X6_leastHarm (l : Launch) : ex_ok l 2 43 bx_X6_leastHarm := ec_okp fo_X6 co_X6 so_X6 (bk_X6_leastHarm l)
theorem bm_X6_leastHarm (l : Launch) : ex_Met l yX6_leastHarm cX6_leastHarm 8 (some .int) 2 43 (ab_sp ab_hd bc_X6_leastHarm) := ab_met (by decide) pn_RX6 rfl (bj_X6_leastHarm l) bd_X6_leastHarm ab_hcm ab_xk bz_X6_leastHarm
theorem ba_X6_shedding : ec_al [(638, Cond.code yX6_shedding cX6_shedding 3 (some .int)), (63, Cond.initialized yX6_shedding.cls), (636, Cond.instanceMethod yX6_shedding), (637, Cond.selects yX6_shedding.cls yX6_shedding yX6_shedding), (639, Cond.methodLink RX6 131 yX6_leastHarm), (651, Cond.methodLink RX6 135 yX6_sumOver), (643, Cond.methodLink RX6 139 yX6_readySet)] := ec_alk (by decide +kernel)
theorem bw_X6_shedding : ec_cw yX6_shedding cX6_shedding 3 (some .int) := ⟨ba_X6_shedding.1, ba_X6_shedding.2.1, nc_RX6⟩
theorem bv_X6_shedding : Cond.instanceMethod yX6_shedding ∈ ec_tb ∧ Cond.selects yX6_shedding.cls yX6_shedding yX6_shedding ∈ ec_tb := ⟨ba_X6_shedding.2.2.1, ba_X6_shedding.2.2.2.1⟩
theorem bp_X6_shedding : (parseMethodDescriptor yX6_shedding.desc).map (fun d => d.parameters.length) = some 2 := by decide +kernel
theorem bk_X6_shedding (l : Launch) : ∀ (ix n : Nat) (rc : Option Nat) (sp : ex_S), (be_X6_shedding ix).map (fun q => (q.1, q.2.1, ab_sp ab_hd q.2.2)) = some (n, rc, sp) → ex_cok l RX6 3 70 ix n rc sp := by
  intro ix n rc sp h
  obtain ⟨l0, h2, rfl⟩ := ab_dmk h
  clear h
  unfold be_X6_shedding at h2
  split at h2
  · cases h2; exact ec_cV (bm_X6_leastHarm l) bw_X6_leastHarm bv_X6_leastHarm (by decide) (by decide) (Or.inl ba_X6_shedding.2.2.2.2.1) (T := TX6) (N := 15) rfl (by decide) bp_X6_leastHarm
  · cases h2; exact ec_cV (bm_X6_sumOver l) bw_X6_sumOver bv_X6_sumOver (by decide) (by decide) (Or.inl ba_X6_shedding.2.2.2.2.2.1) (T := TX6) (N := 15) rfl (by decide) bp_X6_sumOver
  · cases h2; exact ec_cV (bm_X6_readySet l) bw_X6_readySet bv_X6_readySet (by decide) (by decide) (Or.inl ba_X6_shedding.2.2.2.2.2.2.1) (T := TX6) (N := 15) rfl (by decide) bp_X6_readySet
  · cases h2
theorem bj_X6_shedding (l : Launch) : ex_ok l 3 70 bx_X6_shedding := ec_okp fo_X6 co_X6 so_X6 (bk_X6_shedding l)
theorem bm_X6_shedding (l : Launch) : ex_Met l yX6_shedding cX6_shedding 3 (some .int) 3 70 (ab_sp ab_hd bc_X6_shedding) := ab_met (by decide) pn_RX6 rfl (bj_X6_shedding l) bd_X6_shedding ab_hcm ab_xk bz_X6_shedding
theorem ba_X7_has : ec_al [(709, Cond.code yX7_has cX7_has 2 (some .boolean)), (59, Cond.initialized yX7_has.cls), (707, Cond.instanceMethod yX7_has), (708, Cond.selects yX7_has.cls yX7_has yX7_has)] := ec_alk (by decide +kernel)
theorem bw_X7_has : ec_cw yX7_has cX7_has 2 (some .boolean) := ⟨ba_X7_has.1, ba_X7_has.2.1, nc_RX7⟩
theorem bv_X7_has : Cond.instanceMethod yX7_has ∈ ec_tb ∧ Cond.selects yX7_has.cls yX7_has yX7_has ∈ ec_tb := ⟨ba_X7_has.2.2.1, ba_X7_has.2.2.2.1⟩
theorem bp_X7_has : (parseMethodDescriptor yX7_has.desc).map (fun d => d.parameters.length) = some 1 := by decide +kernel
theorem bj_X7_has (l : Launch) : ex_ok l 0 0 bx_X7_has := ec_okp fo_X7 co_X7 so_X7 (ec_okn)
theorem bm_X7_has (l : Launch) : ex_Met l yX7_has cX7_has 2 (some .boolean) 0 0 (ab_sp ab_hd bc_X7_has) := ab_met (by decide) pn_RX7 rfl (bj_X7_has l) bd_X7_has ab_hcm ab_xk bz_X7_has
theorem ba_X7_addLine : ec_al [(909, Cond.code yX7_addLine cX7_addLine 5 (some .int)), (59, Cond.initialized yX7_addLine.cls), (907, Cond.instanceMethod yX7_addLine), (908, Cond.selects yX7_addLine.cls yX7_addLine yX7_addLine)] := ec_alk (by decide +kernel)
theorem bw_X7_addLine : ec_cw yX7_addLine cX7_addLine 5 (some .int) := ⟨ba_X7_addLine.1, ba_X7_addLine.2.1, nc_RX7⟩
theorem bv_X7_addLine : Cond.instanceMethod yX7_addLine ∈ ec_tb ∧ Cond.selects yX7_addLine.cls yX7_addLine yX7_addLine ∈ ec_tb := ⟨ba_X7_addLine.2.2.1, ba_X7_addLine.2.2.2.1⟩
theorem bp_X7_addLine : (parseMethodDescriptor yX7_addLine.desc).map (fun d => d.parameters.length) = some 4 := by decide +kernel
theorem bj_X7_addLine (l : Launch) : ex_ok l 0 0 bx_X7_addLine := ec_okp fo_X7 co_X7 so_X7 (ec_okn)
theorem bm_X7_addLine (l : Launch) : ex_Met l yX7_addLine cX7_addLine 5 (some .int) 0 0 (ab_sp ab_hd bc_X7_addLine) := ab_met (by decide) pn_RX7 rfl (bj_X7_addLine l) bd_X7_addLine ab_hcm ab_xk bz_X7_addLine
theorem ba_X8_becomeLike : ec_al [(867, Cond.code yX8_becomeLike cX8_becomeLike 2 none), (60, Cond.initialized yX8_becomeLike.cls), (865, Cond.instanceMethod yX8_becomeLike), (866, Cond.selects yX8_becomeLike.cls yX8_becomeLike yX8_becomeLike), (868, Cond.methodLink RX8 50 yX0_becomeLike), (882, Cond.methodLink RX8 54 yX3_becomeLike), (887, Cond.methodLink RX8 57 yX6_becomeLike), (893, Cond.methodLink RX8 60 yX1_becomeLike), (897, Cond.methodLink RX8 63 yX2_becomeLike)] := ec_alk (by decide +kernel)
theorem bw_X8_becomeLike : ec_cw yX8_becomeLike cX8_becomeLike 2 none := ⟨ba_X8_becomeLike.1, ba_X8_becomeLike.2.1, nc_RX8⟩
theorem bv_X8_becomeLike : Cond.instanceMethod yX8_becomeLike ∈ ec_tb ∧ Cond.selects yX8_becomeLike.cls yX8_becomeLike yX8_becomeLike ∈ ec_tb := ⟨ba_X8_becomeLike.2.2.1, ba_X8_becomeLike.2.2.2.1⟩
theorem bp_X8_becomeLike : (parseMethodDescriptor yX8_becomeLike.desc).map (fun d => d.parameters.length) = some 1 := by decide +kernel
theorem bk_X8_becomeLike (l : Launch) : ∀ (ix n : Nat) (rc : Option Nat) (sp : ex_S), (be_X8_becomeLike ix).map (fun q => (q.1, q.2.1, ab_sp ab_hd q.2.2)) = some (n, rc, sp) → ex_cok l RX8 3 68 ix n rc sp := by
  intro ix n rc sp h
  obtain ⟨l0, h2, rfl⟩ := ab_dmk h
  clear h
  unfold be_X8_becomeLike at h2
  split at h2
  · cases h2; exact ec_cV (bm_X0_becomeLike l) bw_X0_becomeLike bv_X0_becomeLike (by decide) (by decide) (Or.inl ba_X8_becomeLike.2.2.2.2.1) (T := TX0) (N := 8) rfl (by decide) bp_X0_becomeLike
  · cases h2; exact ec_cV (bm_X3_becomeLike l) bw_X3_becomeLike bv_X3_becomeLike (by decide) (by decide) (Or.inl ba_X8_becomeLike.2.2.2.2.2.1) (T := TX3) (N := 7) rfl (by decide) bp_X3_becomeLike
  · cases h2; exact ec_cV (bm_X6_becomeLike l) bw_X6_becomeLike bv_X6_becomeLike (by decide) (by decide) (Or.inl ba_X8_becomeLike.2.2.2.2.2.2.1) (T := TX6) (N := 15) rfl (by decide) bp_X6_becomeLike
  · cases h2; exact ec_cV (bm_X1_becomeLike l) bw_X1_becomeLike bv_X1_becomeLike (by decide) (by decide) (Or.inl ba_X8_becomeLike.2.2.2.2.2.2.2.1) (T := TX1) (N := 6) rfl (by decide) bp_X1_becomeLike
  · cases h2; exact ec_cV (bm_X2_becomeLike l) bw_X2_becomeLike bv_X2_becomeLike (by decide) (by decide) (Or.inl ba_X8_becomeLike.2.2.2.2.2.2.2.2.1) (T := TX2) (N := 7) rfl (by decide) bp_X2_becomeLike
  · cases h2
theorem bj_X8_becomeLike (l : Launch) : ex_ok l 3 68 bx_X8_becomeLike := ec_okp fo_X8 co_X8 so_X8 (bk_X8_becomeLike l)
theorem bm_X8_becomeLike (l : Launch) : ex_Met l yX8_becomeLike cX8_becomeLike 2 none 3 68 (ab_sp ab_hd bc_X8_becomeLike) := ab_met (by decide) pn_RX8 rfl (bj_X8_becomeLike l) bd_X8_becomeLike ab_hcm ab_xk bz_X8_becomeLike
theorem ba_X8_isCheck : ec_al [(725, Cond.code yX8_isCheck cX8_isCheck 4 (some .boolean)), (60, Cond.initialized yX8_isCheck.cls), (724, Cond.instanceMethod yX8_isCheck), (8, Cond.selects yX8_isCheck.cls yX8_isCheck yX8_isCheck), (621, Cond.methodLink RX8 116 yX6_has), (726, Cond.methodLink RX8 208 yX0_isSort), (521, Cond.methodLink RX8 100 yX0_hasModule)] := ec_alk (by decide +kernel)
theorem bw_X8_isCheck : ec_cw yX8_isCheck cX8_isCheck 4 (some .boolean) := ⟨ba_X8_isCheck.1, ba_X8_isCheck.2.1, nc_RX8⟩
theorem bv_X8_isCheck : Cond.instanceMethod yX8_isCheck ∈ ec_tb ∧ Cond.selects yX8_isCheck.cls yX8_isCheck yX8_isCheck ∈ ec_tb := ⟨ba_X8_isCheck.2.2.1, ba_X8_isCheck.2.2.2.1⟩
theorem bp_X8_isCheck : (parseMethodDescriptor yX8_isCheck.desc).map (fun d => d.parameters.length) = some 3 := by decide +kernel
theorem bk_X8_isCheck (l : Launch) : ∀ (ix n : Nat) (rc : Option Nat) (sp : ex_S), (be_X8_isCheck ix).map (fun q => (q.1, q.2.1, ab_sp ab_hd q.2.2)) = some (n, rc, sp) → ex_cok l RX8 1 21 ix n rc sp := by
  intro ix n rc sp h
  obtain ⟨l0, h2, rfl⟩ := ab_dmk h
  clear h
  unfold be_X8_isCheck at h2
  split at h2
  · cases h2; exact ec_cV (bm_X6_has l) bw_X6_has bv_X6_has (by decide) (by decide) (Or.inl ba_X8_isCheck.2.2.2.2.1) (T := TX6) (N := 15) rfl (by decide) bp_X6_has
  · cases h2; exact ec_cS (bm_X0_isSort l) bw_X0_isSort bv_X0_isSort (by decide) (by decide) (Or.inl ba_X8_isCheck.2.2.2.2.2.1) bp_X0_isSort
  · cases h2; exact ec_cV (bm_X0_hasModule l) bw_X0_hasModule bv_X0_hasModule (by decide) (by decide) (Or.inl ba_X8_isCheck.2.2.2.2.2.2.1) (T := TX0) (N := 8) rfl (by decide) bp_X0_hasModule
  · cases h2
theorem bj_X8_isCheck (l : Launch) : ex_ok l 1 21 bx_X8_isCheck := ec_okp fo_X8 co_X8 so_X8 (bk_X8_isCheck l)
theorem bm_X8_isCheck (l : Launch) : ex_Met l yX8_isCheck cX8_isCheck 4 (some .boolean) 1 21 (ab_sp ab_hd bc_X8_isCheck) := ab_met (by decide) pn_RX8 rfl (bj_X8_isCheck l) bd_X8_isCheck ab_hcm ab_xk bz_X8_isCheck
theorem ba_X8_holds : ec_al [(730, Cond.code yX8_holds cX8_holds 4 (some .boolean)), (60, Cond.initialized yX8_holds.cls), (729, Cond.instanceMethod yX8_holds), (9, Cond.selects yX8_holds.cls yX8_holds yX8_holds), (731, Cond.methodLink RX8 217 yX0_amount)] := ec_alk (by decide +kernel)
theorem bw_X8_holds : ec_cw yX8_holds cX8_holds 4 (some .boolean) := ⟨ba_X8_holds.1, ba_X8_holds.2.1, nc_RX8⟩
theorem bv_X8_holds : Cond.instanceMethod yX8_holds ∈ ec_tb ∧ Cond.selects yX8_holds.cls yX8_holds yX8_holds ∈ ec_tb := ⟨ba_X8_holds.2.2.1, ba_X8_holds.2.2.2.1⟩
theorem bp_X8_holds : (parseMethodDescriptor yX8_holds.desc).map (fun d => d.parameters.length) = some 3 := by decide +kernel
theorem bk_X8_holds (l : Launch) : ∀ (ix n : Nat) (rc : Option Nat) (sp : ex_S), (be_X8_holds ix).map (fun q => (q.1, q.2.1, ab_sp ab_hd q.2.2)) = some (n, rc, sp) → ex_cok l RX8 1 22 ix n rc sp := by
  intro ix n rc sp h
  obtain ⟨l0, h2, rfl⟩ := ab_dmk h
  clear h
  unfold be_X8_holds at h2
  split at h2
  · cases h2; exact ec_cV (bm_X0_amount l) bw_X0_amount bv_X0_amount (by decide) (by decide) (Or.inl ba_X8_holds.2.2.2.2.1) (T := TX0) (N := 8) rfl (by decide) bp_X0_amount
  · cases h2
theorem bj_X8_holds (l : Launch) : ex_ok l 1 22 bx_X8_holds := ec_okp fo_X8 co_X8 so_X8 (bk_X8_holds l)
theorem bm_X8_holds (l : Launch) : ex_Met l yX8_holds cX8_holds 4 (some .boolean) 1 22 (ab_sp ab_hd bc_X8_holds) := ab_met (by decide) pn_RX8 rfl (bj_X8_holds l) bd_X8_holds ab_hcm ab_xk bz_X8_holds
theorem ba_X8_lineAfterCheck : ec_al [(721, Cond.code yX8_lineAfterCheck cX8_lineAfterCheck 6 (some .int)), (60, Cond.initialized yX8_lineAfterCheck.cls), (720, Cond.instanceMethod yX8_lineAfterCheck), (7, Cond.selects yX8_lineAfterCheck.cls yX8_lineAfterCheck yX8_lineAfterCheck), (706, Cond.methodLink RX8 149 yX7_has), (722, Cond.methodLink RX8 201 yX8_isCheck), (727, Cond.methodLink RX8 205 yX8_holds)] := ec_alk (by decide +kernel)
theorem bw_X8_lineAfterCheck : ec_cw yX8_lineAfterCheck cX8_lineAfterCheck 6 (some .int) := ⟨ba_X8_lineAfterCheck.1, ba_X8_lineAfterCheck.2.1, nc_RX8⟩
theorem bv_X8_lineAfterCheck : Cond.instanceMethod yX8_lineAfterCheck ∈ ec_tb ∧ Cond.selects yX8_lineAfterCheck.cls yX8_lineAfterCheck yX8_lineAfterCheck ∈ ec_tb := ⟨ba_X8_lineAfterCheck.2.2.1, ba_X8_lineAfterCheck.2.2.2.1⟩
theorem bp_X8_lineAfterCheck : (parseMethodDescriptor yX8_lineAfterCheck.desc).map (fun d => d.parameters.length) = some 1 := by decide +kernel
theorem bk_X8_lineAfterCheck (l : Launch) : ∀ (ix n : Nat) (rc : Option Nat) (sp : ex_S), (be_X8_lineAfterCheck ix).map (fun q => (q.1, q.2.1, ab_sp ab_hd q.2.2)) = some (n, rc, sp) → ex_cok l RX8 2 45 ix n rc sp := by
  intro ix n rc sp h
  obtain ⟨l0, h2, rfl⟩ := ab_dmk h
  clear h
  unfold be_X8_lineAfterCheck at h2
  split at h2
  · cases h2; exact ec_cV (bm_X7_has l) bw_X7_has bv_X7_has (by decide) (by decide) (Or.inl ba_X8_lineAfterCheck.2.2.2.2.1) (T := TX7) (N := 5) rfl (by decide) bp_X7_has
  · cases h2; exact ec_cV (bm_X8_isCheck l) bw_X8_isCheck bv_X8_isCheck (by decide) (by decide) (Or.inl ba_X8_lineAfterCheck.2.2.2.2.2.1) (T := TX8) (N := 7) rfl (by decide) bp_X8_isCheck
  · cases h2; exact ec_cV (bm_X8_holds l) bw_X8_holds bv_X8_holds (by decide) (by decide) (Or.inl ba_X8_lineAfterCheck.2.2.2.2.2.2.1) (T := TX8) (N := 7) rfl (by decide) bp_X8_holds
  · cases h2
theorem bj_X8_lineAfterCheck (l : Launch) : ex_ok l 2 45 bx_X8_lineAfterCheck := ec_okp fo_X8 co_X8 so_X8 (bk_X8_lineAfterCheck l)
theorem bm_X8_lineAfterCheck (l : Launch) : ex_Met l yX8_lineAfterCheck cX8_lineAfterCheck 6 (some .int) 2 45 (ab_sp ab_hd bc_X8_lineAfterCheck) := ab_met (by decide) pn_RX8 rfl (bj_X8_lineAfterCheck l) bd_X8_lineAfterCheck ab_hcm ab_xk bz_X8_lineAfterCheck
theorem ba_X8_walk : ec_al [(516, Cond.code yX8_walk cX8_walk 3 (some .int)), (60, Cond.initialized yX8_walk.cls), (514, Cond.instanceMethod yX8_walk), (515, Cond.selects yX8_walk.cls yX8_walk yX8_walk), (517, Cond.methodLink RX8 96 yX3_has), (521, Cond.methodLink RX8 100 yX0_hasModule), (523, Cond.methodLink RX8 104 yX3_mends), (527, Cond.methodLink RX8 111 yX0_openBetween)] := ec_alk (by decide +kernel)
theorem bw_X8_walk : ec_cw yX8_walk cX8_walk 3 (some .int) := ⟨ba_X8_walk.1, ba_X8_walk.2.1, nc_RX8⟩
theorem bv_X8_walk : Cond.instanceMethod yX8_walk ∈ ec_tb ∧ Cond.selects yX8_walk.cls yX8_walk yX8_walk ∈ ec_tb := ⟨ba_X8_walk.2.2.1, ba_X8_walk.2.2.2.1⟩
theorem bp_X8_walk : (parseMethodDescriptor yX8_walk.desc).map (fun d => d.parameters.length) = some 2 := by decide +kernel
theorem bk_X8_walk (l : Launch) : ∀ (ix n : Nat) (rc : Option Nat) (sp : ex_S), (be_X8_walk ix).map (fun q => (q.1, q.2.1, ab_sp ab_hd q.2.2)) = some (n, rc, sp) → ex_cok l RX8 1 24 ix n rc sp := by
  intro ix n rc sp h
  obtain ⟨l0, h2, rfl⟩ := ab_dmk h
  clear h
  unfold be_X8_walk at h2
  split at h2
  · cases h2; exact ec_cV (bm_X3_has l) bw_X3_has bv_X3_has (by decide) (by decide) (Or.inl ba_X8_walk.2.2.2.2.1) (T := TX3) (N := 7) rfl (by decide) bp_X3_has
  · cases h2; exact ec_cV (bm_X0_hasModule l) bw_X0_hasModule bv_X0_hasModule (by decide) (by decide) (Or.inl ba_X8_walk.2.2.2.2.2.1) (T := TX0) (N := 8) rfl (by decide) bp_X0_hasModule
  · cases h2; exact ec_cV (bm_X3_mends l) bw_X3_mends bv_X3_mends (by decide) (by decide) (Or.inl ba_X8_walk.2.2.2.2.2.2.1) (T := TX3) (N := 7) rfl (by decide) bp_X3_mends
  · cases h2; exact ec_cV (bm_X0_openBetween l) bw_X0_openBetween bv_X0_openBetween (by decide) (by decide) (Or.inl ba_X8_walk.2.2.2.2.2.2.2.1) (T := TX0) (N := 8) rfl (by decide) bp_X0_openBetween
  · cases h2
theorem bj_X8_walk (l : Launch) : ex_ok l 1 24 bx_X8_walk := ec_okp fo_X8 co_X8 so_X8 (bk_X8_walk l)
theorem bm_X8_walk (l : Launch) : ex_Met l yX8_walk cX8_walk 3 (some .int) 1 24 (ab_sp ab_hd bc_X8_walk) := ab_met (by decide) pn_RX8 rfl (bj_X8_walk l) bd_X8_walk ab_hcm ab_xk bz_X8_walk
theorem ba_X8_mend : ec_al [(620, Cond.code yX8_mend cX8_mend 5 (some .int)), (60, Cond.initialized yX8_mend.cls), (618, Cond.instanceMethod yX8_mend), (619, Cond.selects yX8_mend.cls yX8_mend yX8_mend), (517, Cond.methodLink RX8 96 yX3_has), (621, Cond.methodLink RX8 116 yX6_has), (622, Cond.methodLink RX8 121 yX3_isMended), (523, Cond.methodLink RX8 104 yX3_mends), (627, Cond.methodLink RX8 132 yX3_startMending)] := ec_alk (by decide +kernel)
theorem bw_X8_mend : ec_cw yX8_mend cX8_mend 5 (some .int) := ⟨ba_X8_mend.1, ba_X8_mend.2.1, nc_RX8⟩
theorem bv_X8_mend : Cond.instanceMethod yX8_mend ∈ ec_tb ∧ Cond.selects yX8_mend.cls yX8_mend yX8_mend ∈ ec_tb := ⟨ba_X8_mend.2.2.1, ba_X8_mend.2.2.2.1⟩
theorem bp_X8_mend : (parseMethodDescriptor yX8_mend.desc).map (fun d => d.parameters.length) = some 3 := by decide +kernel
theorem bk_X8_mend (l : Launch) : ∀ (ix n : Nat) (rc : Option Nat) (sp : ex_S), (be_X8_mend ix).map (fun q => (q.1, q.2.1, ab_sp ab_hd q.2.2)) = some (n, rc, sp) → ex_cok l RX8 1 23 ix n rc sp := by
  intro ix n rc sp h
  obtain ⟨l0, h2, rfl⟩ := ab_dmk h
  clear h
  unfold be_X8_mend at h2
  split at h2
  · cases h2; exact ec_cV (bm_X3_has l) bw_X3_has bv_X3_has (by decide) (by decide) (Or.inl ba_X8_mend.2.2.2.2.1) (T := TX3) (N := 7) rfl (by decide) bp_X3_has
  · cases h2; exact ec_cV (bm_X6_has l) bw_X6_has bv_X6_has (by decide) (by decide) (Or.inl ba_X8_mend.2.2.2.2.2.1) (T := TX6) (N := 15) rfl (by decide) bp_X6_has
  · cases h2; exact ec_cV (bm_X3_isMended l) bw_X3_isMended bv_X3_isMended (by decide) (by decide) (Or.inl ba_X8_mend.2.2.2.2.2.2.1) (T := TX3) (N := 7) rfl (by decide) bp_X3_isMended
  · cases h2; exact ec_cV (bm_X3_mends l) bw_X3_mends bv_X3_mends (by decide) (by decide) (Or.inl ba_X8_mend.2.2.2.2.2.2.2.1) (T := TX3) (N := 7) rfl (by decide) bp_X3_mends
  · cases h2; exact ec_cV (bm_X3_startMending l) bw_X3_startMending bv_X3_startMending (by decide) (by decide) (Or.inl ba_X8_mend.2.2.2.2.2.2.2.2.1) (T := TX3) (N := 7) rfl (by decide) bp_X3_startMending
  · cases h2
theorem bj_X8_mend (l : Launch) : ex_ok l 1 23 bx_X8_mend := ec_okp fo_X8 co_X8 so_X8 (bk_X8_mend l)
theorem bm_X8_mend (l : Launch) : ex_Met l yX8_mend cX8_mend 5 (some .int) 1 23 (ab_sp ab_hd bc_X8_mend) := ab_met (by decide) pn_RX8 rfl (bj_X8_mend l) bd_X8_mend ab_hcm ab_xk bz_X8_mend
theorem ba_X8_actByText : ec_al [(738, Cond.code yX8_actByText cX8_actByText 4 (some .int)), (60, Cond.initialized yX8_actByText.cls), (737, Cond.instanceMethod yX8_actByText), (10, Cond.selects yX8_actByText.cls yX8_actByText yX8_actByText), (739, Cond.methodLink RX8 184 yX6_setOn), (740, Cond.methodLink RX8 188 yX0_setOpen), (741, Cond.methodLink RX8 191 yX8_walk), (742, Cond.methodLink RX8 197 yX8_mend)] := ec_alk (by decide +kernel)
theorem bw_X8_actByText : ec_cw yX8_actByText cX8_actByText 4 (some .int) := ⟨ba_X8_actByText.1, ba_X8_actByText.2.1, nc_RX8⟩
theorem bv_X8_actByText : Cond.instanceMethod yX8_actByText ∈ ec_tb ∧ Cond.selects yX8_actByText.cls yX8_actByText yX8_actByText ∈ ec_tb := ⟨ba_X8_actByText.2.2.1, ba_X8_actByText.2.2.2.1⟩
theorem bp_X8_actByText : (parseMethodDescriptor yX8_actByText.desc).map (fun d => d.parameters.length) = some 1 := by decide +kernel
theorem bk_X8_actByText (l : Launch) : ∀ (ix n : Nat) (rc : Option Nat) (sp : ex_S), (be_X8_actByText ix).map (fun q => (q.1, q.2.1, ab_sp ab_hd q.2.2)) = some (n, rc, sp) → ex_cok l RX8 2 47 ix n rc sp := by
  intro ix n rc sp h
  obtain ⟨l0, h2, rfl⟩ := ab_dmk h
  clear h
  unfold be_X8_actByText at h2
  split at h2
  · cases h2; exact ec_cV (bm_X6_setOn l) bw_X6_setOn bv_X6_setOn (by decide) (by decide) (Or.inl ba_X8_actByText.2.2.2.2.1) (T := TX6) (N := 15) rfl (by decide) bp_X6_setOn
  · cases h2; exact ec_cV (bm_X0_setOpen l) bw_X0_setOpen bv_X0_setOpen (by decide) (by decide) (Or.inl ba_X8_actByText.2.2.2.2.2.1) (T := TX0) (N := 8) rfl (by decide) bp_X0_setOpen
  · cases h2; exact ec_cV (bm_X8_walk l) bw_X8_walk bv_X8_walk (by decide) (by decide) (Or.inl ba_X8_actByText.2.2.2.2.2.2.1) (T := TX8) (N := 7) rfl (by decide) bp_X8_walk
  · cases h2; exact ec_cV (bm_X8_mend l) bw_X8_mend bv_X8_mend (by decide) (by decide) (Or.inl ba_X8_actByText.2.2.2.2.2.2.2.1) (T := TX8) (N := 7) rfl (by decide) bp_X8_mend
  · cases h2
theorem bj_X8_actByText (l : Launch) : ex_ok l 2 47 bx_X8_actByText := ec_okp fo_X8 co_X8 so_X8 (bk_X8_actByText l)
theorem bm_X8_actByText (l : Launch) : ex_Met l yX8_actByText cX8_actByText 4 (some .int) 2 47 (ab_sp ab_hd bc_X8_actByText) := ab_met (by decide) pn_RX8 rfl (bj_X8_actByText l) bd_X8_actByText ab_hcm ab_xk bz_X8_actByText
theorem ba_X8_lineAfter : ec_al [(717, Cond.code yX8_lineAfter cX8_lineAfter 3 (some .int)), (60, Cond.initialized yX8_lineAfter.cls), (716, Cond.instanceMethod yX8_lineAfter), (6, Cond.selects yX8_lineAfter.cls yX8_lineAfter yX8_lineAfter), (718, Cond.methodLink RX8 171 yX8_lineAfterCheck), (706, Cond.methodLink RX8 149 yX7_has), (735, Cond.methodLink RX8 177 yX8_actByText)] := ec_alk (by decide +kernel)
theorem bw_X8_lineAfter : ec_cw yX8_lineAfter cX8_lineAfter 3 (some .int) := ⟨ba_X8_lineAfter.1, ba_X8_lineAfter.2.1, nc_RX8⟩
theorem bv_X8_lineAfter : Cond.instanceMethod yX8_lineAfter ∈ ec_tb ∧ Cond.selects yX8_lineAfter.cls yX8_lineAfter yX8_lineAfter ∈ ec_tb := ⟨ba_X8_lineAfter.2.2.1, ba_X8_lineAfter.2.2.2.1⟩
theorem bp_X8_lineAfter : (parseMethodDescriptor yX8_lineAfter.desc).map (fun d => d.parameters.length) = some 1 := by decide +kernel
theorem bk_X8_lineAfter (l : Launch) : ∀ (ix n : Nat) (rc : Option Nat) (sp : ex_S), (be_X8_lineAfter ix).map (fun q => (q.1, q.2.1, ab_sp ab_hd q.2.2)) = some (n, rc, sp) → ex_cok l RX8 3 70 ix n rc sp := by
  intro ix n rc sp h
  obtain ⟨l0, h2, rfl⟩ := ab_dmk h
  clear h
  unfold be_X8_lineAfter at h2
  split at h2
  · cases h2; exact ec_cV (bm_X8_lineAfterCheck l) bw_X8_lineAfterCheck bv_X8_lineAfterCheck (by decide) (by decide) (Or.inl ba_X8_lineAfter.2.2.2.2.1) (T := TX8) (N := 7) rfl (by decide) bp_X8_lineAfterCheck
  · cases h2; exact ec_cV (bm_X7_has l) bw_X7_has bv_X7_has (by decide) (by decide) (Or.inl ba_X8_lineAfter.2.2.2.2.2.1) (T := TX7) (N := 5) rfl (by decide) bp_X7_has
  · cases h2; exact ec_cV (bm_X8_actByText l) bw_X8_actByText bv_X8_actByText (by decide) (by decide) (Or.inl ba_X8_lineAfter.2.2.2.2.2.2.1) (T := TX8) (N := 7) rfl (by decide) bp_X8_actByText
  · cases h2
theorem bj_X8_lineAfter (l : Launch) : ex_ok l 3 70 bx_X8_lineAfter := ec_okp fo_X8 co_X8 so_X8 (bk_X8_lineAfter l)
theorem bm_X8_lineAfter (l : Launch) : ex_Met l yX8_lineAfter cX8_lineAfter 3 (some .int) 3 70 (ab_sp ab_hd bc_X8_lineAfter) := ab_met (by decide) pn_RX8 rfl (bj_X8_lineAfter l) bd_X8_lineAfter ab_hcm ab_xk bz_X8_lineAfter
theorem ba_X8_doText : ec_al [(705, Cond.code yX8_doText cX8_doText 2 none), (60, Cond.initialized yX8_doText.cls), (704, Cond.instanceMethod yX8_doText), (5, Cond.selects yX8_doText.cls yX8_doText yX8_doText), (706, Cond.methodLink RX8 149 yX7_has), (710, Cond.methodLink RX8 152 yX2_finish), (714, Cond.methodLink RX8 161 yX8_lineAfter), (744, Cond.methodLink RX8 165 yX2_goOnAt)] := ec_alk (by decide +kernel)
theorem bw_X8_doText : ec_cw yX8_doText cX8_doText 2 none := ⟨ba_X8_doText.1, ba_X8_doText.2.1, nc_RX8⟩
theorem bv_X8_doText : Cond.instanceMethod yX8_doText ∈ ec_tb ∧ Cond.selects yX8_doText.cls yX8_doText yX8_doText ∈ ec_tb := ⟨ba_X8_doText.2.2.1, ba_X8_doText.2.2.2.1⟩
theorem bp_X8_doText : (parseMethodDescriptor yX8_doText.desc).map (fun d => d.parameters.length) = some 0 := by decide +kernel
theorem bk_X8_doText (l : Launch) : ∀ (ix n : Nat) (rc : Option Nat) (sp : ex_S), (be_X8_doText ix).map (fun q => (q.1, q.2.1, ab_sp ab_hd q.2.2)) = some (n, rc, sp) → ex_cok l RX8 4 92 ix n rc sp := by
  intro ix n rc sp h
  obtain ⟨l0, h2, rfl⟩ := ab_dmk h
  clear h
  unfold be_X8_doText at h2
  split at h2
  · cases h2; exact ec_cV (bm_X7_has l) bw_X7_has bv_X7_has (by decide) (by decide) (Or.inl ba_X8_doText.2.2.2.2.1) (T := TX7) (N := 5) rfl (by decide) bp_X7_has
  · cases h2; exact ec_cV (bm_X2_finish l) bw_X2_finish bv_X2_finish (by decide) (by decide) (Or.inl ba_X8_doText.2.2.2.2.2.1) (T := TX2) (N := 7) rfl (by decide) bp_X2_finish
  · cases h2; exact ec_cV (bm_X8_lineAfter l) bw_X8_lineAfter bv_X8_lineAfter (by decide) (by decide) (Or.inl ba_X8_doText.2.2.2.2.2.2.1) (T := TX8) (N := 7) rfl (by decide) bp_X8_lineAfter
  · cases h2; exact ec_cV (bm_X2_goOnAt l) bw_X2_goOnAt bv_X2_goOnAt (by decide) (by decide) (Or.inl ba_X8_doText.2.2.2.2.2.2.2.1) (T := TX2) (N := 7) rfl (by decide) bp_X2_goOnAt
  · cases h2
theorem bj_X8_doText (l : Launch) : ex_ok l 4 92 bx_X8_doText := ec_okp fo_X8 co_X8 so_X8 (bk_X8_doText l)
theorem bm_X8_doText (l : Launch) : ex_Met l yX8_doText cX8_doText 2 none 4 92 (ab_sp ab_hd bc_X8_doText) := ab_met (by decide) pn_RX8 rfl (bj_X8_doText l) bd_X8_doText ab_hcm ab_xk bz_X8_doText
theorem ba_X8_passTick : ec_al [(701, Cond.code yX8_passTick cX8_passTick 2 (some .boolean)), (60, Cond.initialized yX8_passTick.cls), (699, Cond.instanceMethod yX8_passTick), (700, Cond.selects yX8_passTick.cls yX8_passTick yX8_passTick), (702, Cond.methodLink RX8 70 yX8_doText), (753, Cond.methodLink RX8 73 yX3_mendOn), (761, Cond.methodLink RX8 76 yX6_sharePower), (765, Cond.methodLink RX8 80 yX6_workAll), (798, Cond.methodLink RX8 83 yX3_live), (819, Cond.methodLink RX8 86 yX0_leakOut), (826, Cond.methodLink RX8 89 yX0_mixThroughHatches), (834, Cond.methodLink RX8 92 yX1_look)] := ec_alk (by decide +kernel)
theorem bw_X8_passTick : ec_cw yX8_passTick cX8_passTick 2 (some .boolean) := ⟨ba_X8_passTick.1, ba_X8_passTick.2.1, nc_RX8⟩
theorem bv_X8_passTick : Cond.instanceMethod yX8_passTick ∈ ec_tb ∧ Cond.selects yX8_passTick.cls yX8_passTick yX8_passTick ∈ ec_tb := ⟨ba_X8_passTick.2.2.1, ba_X8_passTick.2.2.2.1⟩
theorem bp_X8_passTick : (parseMethodDescriptor yX8_passTick.desc).map (fun d => d.parameters.length) = some 0 := by decide +kernel
theorem bk_X8_passTick (l : Launch) : ∀ (ix n : Nat) (rc : Option Nat) (sp : ex_S), (be_X8_passTick ix).map (fun q => (q.1, q.2.1, ab_sp ab_hd q.2.2)) = some (n, rc, sp) → ex_cok l RX8 5 113 ix n rc sp := by
  intro ix n rc sp h
  obtain ⟨l0, h2, rfl⟩ := ab_dmk h
  clear h
  unfold be_X8_passTick at h2
  split at h2
  · cases h2; exact ec_cV (bm_X8_doText l) bw_X8_doText bv_X8_doText (by decide) (by decide) (Or.inl ba_X8_passTick.2.2.2.2.1) (T := TX8) (N := 7) rfl (by decide) bp_X8_doText
  · cases h2; exact ec_cV (bm_X3_mendOn l) bw_X3_mendOn bv_X3_mendOn (by decide) (by decide) (Or.inl ba_X8_passTick.2.2.2.2.2.1) (T := TX3) (N := 7) rfl (by decide) bp_X3_mendOn
  · cases h2; exact ec_cV (bm_X6_sharePower l) bw_X6_sharePower bv_X6_sharePower (by decide) (by decide) (Or.inl ba_X8_passTick.2.2.2.2.2.2.1) (T := TX6) (N := 15) rfl (by decide) bp_X6_sharePower
  · cases h2; exact ec_cV (bm_X6_workAll l) bw_X6_workAll bv_X6_workAll (by decide) (by decide) (Or.inl ba_X8_passTick.2.2.2.2.2.2.2.1) (T := TX6) (N := 15) rfl (by decide) bp_X6_workAll
  · cases h2; exact ec_cV (bm_X3_live l) bw_X3_live bv_X3_live (by decide) (by decide) (Or.inl ba_X8_passTick.2.2.2.2.2.2.2.2.1) (T := TX3) (N := 7) rfl (by decide) bp_X3_live
  · cases h2; exact ec_cV (bm_X0_leakOut l) bw_X0_leakOut bv_X0_leakOut (by decide) (by decide) (Or.inl ba_X8_passTick.2.2.2.2.2.2.2.2.2.1) (T := TX0) (N := 8) rfl (by decide) bp_X0_leakOut
  · cases h2; exact ec_cV (bm_X0_mixThroughHatches l) bw_X0_mixThroughHatches bv_X0_mixThroughHatches (by decide) (by decide) (Or.inl ba_X8_passTick.2.2.2.2.2.2.2.2.2.2.1) (T := TX0) (N := 8) rfl (by decide) bp_X0_mixThroughHatches
  · cases h2; exact ec_cV (bm_X1_look l) bw_X1_look bv_X1_look (by decide) (by decide) (Or.inl ba_X8_passTick.2.2.2.2.2.2.2.2.2.2.2.1) (T := TX1) (N := 6) rfl (by decide) bp_X1_look
  · cases h2
theorem bj_X8_passTick (l : Launch) : ex_ok l 5 113 bx_X8_passTick := ec_okp fo_X8 co_X8 so_X8 (bk_X8_passTick l)
theorem bm_X8_passTick (l : Launch) : ex_Met l yX8_passTick cX8_passTick 2 (some .boolean) 5 113 (ab_sp ab_hd bc_X8_passTick) := ab_met (by decide) pn_RX8 rfl (bj_X8_passTick l) bd_X8_passTick ab_hcm ab_xk bz_X8_passTick
theorem ba_X9_counted : ec_al [(427, Cond.code yX9_counted cX9_counted 2 (some .int)), (58, Cond.initialized yX9_counted.cls), (426, Cond.instanceMethod yX9_counted), (0, Cond.selects yX9_counted.cls yX9_counted yX9_counted)] := ec_alk (by decide +kernel)
theorem bw_X9_counted : ec_cw yX9_counted cX9_counted 2 (some .int) := ⟨ba_X9_counted.1, ba_X9_counted.2.1, nc_RX9⟩
theorem bv_X9_counted : Cond.instanceMethod yX9_counted ∈ ec_tb ∧ Cond.selects yX9_counted.cls yX9_counted yX9_counted ∈ ec_tb := ⟨ba_X9_counted.2.2.1, ba_X9_counted.2.2.2.1⟩
theorem bp_X9_counted : (parseMethodDescriptor yX9_counted.desc).map (fun d => d.parameters.length) = some 1 := by decide +kernel
theorem bj_X9_counted (l : Launch) : ex_ok l 0 0 bx_X9_counted := ec_okp fo_X9 co_X9 so_X9 (ec_okn)
theorem bm_X9_counted (l : Launch) : ex_Met l yX9_counted cX9_counted 2 (some .int) 0 0 (ab_sp ab_hd bc_X9_counted) := ab_met (by decide) pn_RX9 rfl (bj_X9_counted l) bd_X9_counted ab_hcm ab_xk bz_X9_counted
theorem ba_X9_module : ec_al [(418, Cond.code yX9_module cX9_module 1 (some .int)), (58, Cond.initialized yX9_module.cls), (416, Cond.instanceMethod yX9_module), (417, Cond.selects yX9_module.cls yX9_module yX9_module), (419, Cond.methodLink RX9 58 yX0_addModule), (424, Cond.methodLink RX9 64 yX9_counted)] := ec_alk (by decide +kernel)
theorem bw_X9_module : ec_cw yX9_module cX9_module 1 (some .int) := ⟨ba_X9_module.1, ba_X9_module.2.1, nc_RX9⟩
theorem bv_X9_module : Cond.instanceMethod yX9_module ∈ ec_tb ∧ Cond.selects yX9_module.cls yX9_module yX9_module ∈ ec_tb := ⟨ba_X9_module.2.2.1, ba_X9_module.2.2.2.1⟩
theorem bp_X9_module : (parseMethodDescriptor yX9_module.desc).map (fun d => d.parameters.length) = some 0 := by decide +kernel
theorem bk_X9_module (l : Launch) : ∀ (ix n : Nat) (rc : Option Nat) (sp : ex_S), (be_X9_module ix).map (fun q => (q.1, q.2.1, ab_sp ab_hd q.2.2)) = some (n, rc, sp) → ex_cok l RX9 1 21 ix n rc sp := by
  intro ix n rc sp h
  obtain ⟨l0, h2, rfl⟩ := ab_dmk h
  clear h
  unfold be_X9_module at h2
  split at h2
  · cases h2; exact ec_cV (bm_X0_addModule l) bw_X0_addModule bv_X0_addModule (by decide) (by decide) (Or.inl ba_X9_module.2.2.2.2.1) (T := TX0) (N := 8) rfl (by decide) bp_X0_addModule
  · cases h2; exact ec_cV (bm_X9_counted l) bw_X9_counted bv_X9_counted (by decide) (by decide) (Or.inl ba_X9_module.2.2.2.2.2.1) (T := TX9) (N := 10) rfl (by decide) bp_X9_counted
  · cases h2
theorem bj_X9_module (l : Launch) : ex_ok l 1 21 bx_X9_module := ec_okp fo_X9 co_X9 so_X9 (bk_X9_module l)
theorem bm_X9_module (l : Launch) : ex_Met l yX9_module cX9_module 1 (some .int) 1 21 (ab_sp ab_hd bc_X9_module) := ab_met (by decide) pn_RX9 rfl (bj_X9_module l) bd_X9_module ab_hcm ab_xk bz_X9_module
theorem ba_X9_hatch : ec_al [(433, Cond.code yX9_hatch cX9_hatch 3 (some .int)), (58, Cond.initialized yX9_hatch.cls), (431, Cond.instanceMethod yX9_hatch), (432, Cond.selects yX9_hatch.cls yX9_hatch yX9_hatch), (434, Cond.methodLink RX9 68 yX0_addHatch), (424, Cond.methodLink RX9 64 yX9_counted)] := ec_alk (by decide +kernel)
theorem bw_X9_hatch : ec_cw yX9_hatch cX9_hatch 3 (some .int) := ⟨ba_X9_hatch.1, ba_X9_hatch.2.1, nc_RX9⟩
theorem bv_X9_hatch : Cond.instanceMethod yX9_hatch ∈ ec_tb ∧ Cond.selects yX9_hatch.cls yX9_hatch yX9_hatch ∈ ec_tb := ⟨ba_X9_hatch.2.2.1, ba_X9_hatch.2.2.2.1⟩
theorem bp_X9_hatch : (parseMethodDescriptor yX9_hatch.desc).map (fun d => d.parameters.length) = some 2 := by decide +kernel
theorem bk_X9_hatch (l : Launch) : ∀ (ix n : Nat) (rc : Option Nat) (sp : ex_S), (be_X9_hatch ix).map (fun q => (q.1, q.2.1, ab_sp ab_hd q.2.2)) = some (n, rc, sp) → ex_cok l RX9 2 43 ix n rc sp := by
  intro ix n rc sp h
  obtain ⟨l0, h2, rfl⟩ := ab_dmk h
  clear h
  unfold be_X9_hatch at h2
  split at h2
  · cases h2; exact ec_cV (bm_X0_addHatch l) bw_X0_addHatch bv_X0_addHatch (by decide) (by decide) (Or.inl ba_X9_hatch.2.2.2.2.1) (T := TX0) (N := 8) rfl (by decide) bp_X0_addHatch
  · cases h2; exact ec_cV (bm_X9_counted l) bw_X9_counted bv_X9_counted (by decide) (by decide) (Or.inl ba_X9_hatch.2.2.2.2.2.1) (T := TX9) (N := 10) rfl (by decide) bp_X9_counted
  · cases h2
theorem bj_X9_hatch (l : Launch) : ex_ok l 2 43 bx_X9_hatch := ec_okp fo_X9 co_X9 so_X9 (bk_X9_hatch l)
theorem bm_X9_hatch (l : Launch) : ex_Met l yX9_hatch cX9_hatch 3 (some .int) 2 43 (ab_sp ab_hd bc_X9_hatch) := ab_met (by decide) pn_RX9 rfl (bj_X9_hatch l) bd_X9_hatch ab_hcm ab_xk bz_X9_hatch
theorem ba_X9_shut : ec_al [(446, Cond.code yX9_shut cX9_shut 3 (some .int)), (58, Cond.initialized yX9_shut.cls), (444, Cond.instanceMethod yX9_shut), (445, Cond.selects yX9_shut.cls yX9_shut yX9_shut), (447, Cond.methodLink RX9 72 yX0_setOpen), (424, Cond.methodLink RX9 64 yX9_counted)] := ec_alk (by decide +kernel)
theorem bw_X9_shut : ec_cw yX9_shut cX9_shut 3 (some .int) := ⟨ba_X9_shut.1, ba_X9_shut.2.1, nc_RX9⟩
theorem bv_X9_shut : Cond.instanceMethod yX9_shut ∈ ec_tb ∧ Cond.selects yX9_shut.cls yX9_shut yX9_shut ∈ ec_tb := ⟨ba_X9_shut.2.2.1, ba_X9_shut.2.2.2.1⟩
theorem bp_X9_shut : (parseMethodDescriptor yX9_shut.desc).map (fun d => d.parameters.length) = some 2 := by decide +kernel
theorem bk_X9_shut (l : Launch) : ∀ (ix n : Nat) (rc : Option Nat) (sp : ex_S), (be_X9_shut ix).map (fun q => (q.1, q.2.1, ab_sp ab_hd q.2.2)) = some (n, rc, sp) → ex_cok l RX9 2 44 ix n rc sp := by
  intro ix n rc sp h
  obtain ⟨l0, h2, rfl⟩ := ab_dmk h
  clear h
  unfold be_X9_shut at h2
  split at h2
  · cases h2; exact ec_cV (bm_X0_setOpen l) bw_X0_setOpen bv_X0_setOpen (by decide) (by decide) (Or.inl ba_X9_shut.2.2.2.2.1) (T := TX0) (N := 8) rfl (by decide) bp_X0_setOpen
  · cases h2; exact ec_cV (bm_X9_counted l) bw_X9_counted bv_X9_counted (by decide) (by decide) (Or.inl ba_X9_shut.2.2.2.2.2.1) (T := TX9) (N := 10) rfl (by decide) bp_X9_counted
  · cases h2
theorem bj_X9_shut (l : Launch) : ex_ok l 2 44 bx_X9_shut := ec_okp fo_X9 co_X9 so_X9 (bk_X9_shut l)
theorem bm_X9_shut (l : Launch) : ex_Met l yX9_shut cX9_shut 3 (some .int) 2 44 (ab_sp ab_hd bc_X9_shut) := ab_met (by decide) pn_RX9 rfl (bj_X9_shut l) bd_X9_shut ab_hcm ab_xk bz_X9_shut
theorem ba_X9_gas : ec_al [(464, Cond.code yX9_gas cX9_gas 4 (some .int)), (58, Cond.initialized yX9_gas.cls), (462, Cond.instanceMethod yX9_gas), (463, Cond.selects yX9_gas.cls yX9_gas yX9_gas), (465, Cond.methodLink RX9 75 yX0_setHeld), (424, Cond.methodLink RX9 64 yX9_counted)] := ec_alk (by decide +kernel)
theorem bw_X9_gas : ec_cw yX9_gas cX9_gas 4 (some .int) := ⟨ba_X9_gas.1, ba_X9_gas.2.1, nc_RX9⟩
theorem bv_X9_gas : Cond.instanceMethod yX9_gas ∈ ec_tb ∧ Cond.selects yX9_gas.cls yX9_gas yX9_gas ∈ ec_tb := ⟨ba_X9_gas.2.2.1, ba_X9_gas.2.2.2.1⟩
theorem bp_X9_gas : (parseMethodDescriptor yX9_gas.desc).map (fun d => d.parameters.length) = some 3 := by decide +kernel
theorem bk_X9_gas (l : Launch) : ∀ (ix n : Nat) (rc : Option Nat) (sp : ex_S), (be_X9_gas ix).map (fun q => (q.1, q.2.1, ab_sp ab_hd q.2.2)) = some (n, rc, sp) → ex_cok l RX9 2 45 ix n rc sp := by
  intro ix n rc sp h
  obtain ⟨l0, h2, rfl⟩ := ab_dmk h
  clear h
  unfold be_X9_gas at h2
  split at h2
  · cases h2; exact ec_cV (bm_X0_setHeld l) bw_X0_setHeld bv_X0_setHeld (by decide) (by decide) (Or.inl ba_X9_gas.2.2.2.2.1) (T := TX0) (N := 8) rfl (by decide) bp_X0_setHeld
  · cases h2; exact ec_cV (bm_X9_counted l) bw_X9_counted bv_X9_counted (by decide) (by decide) (Or.inl ba_X9_gas.2.2.2.2.2.1) (T := TX9) (N := 10) rfl (by decide) bp_X9_counted
  · cases h2
theorem bj_X9_gas (l : Launch) : ex_ok l 2 45 bx_X9_gas := ec_okp fo_X9 co_X9 so_X9 (bk_X9_gas l)
theorem bm_X9_gas (l : Launch) : ex_Met l yX9_gas cX9_gas 4 (some .int) 2 45 (ab_sp ab_hd bc_X9_gas) := ab_met (by decide) pn_RX9 rfl (bj_X9_gas l) bd_X9_gas ab_hcm ab_xk bz_X9_gas
theorem ba_X9_leak : ec_al [(476, Cond.code yX9_leak cX9_leak 3 (some .int)), (58, Cond.initialized yX9_leak.cls), (474, Cond.instanceMethod yX9_leak), (475, Cond.selects yX9_leak.cls yX9_leak yX9_leak), (477, Cond.methodLink RX9 79 yX0_setLeak), (424, Cond.methodLink RX9 64 yX9_counted)] := ec_alk (by decide +kernel)
theorem bw_X9_leak : ec_cw yX9_leak cX9_leak 3 (some .int) := ⟨ba_X9_leak.1, ba_X9_leak.2.1, nc_RX9⟩
theorem bv_X9_leak : Cond.instanceMethod yX9_leak ∈ ec_tb ∧ Cond.selects yX9_leak.cls yX9_leak yX9_leak ∈ ec_tb := ⟨ba_X9_leak.2.2.1, ba_X9_leak.2.2.2.1⟩
theorem bp_X9_leak : (parseMethodDescriptor yX9_leak.desc).map (fun d => d.parameters.length) = some 2 := by decide +kernel
theorem bk_X9_leak (l : Launch) : ∀ (ix n : Nat) (rc : Option Nat) (sp : ex_S), (be_X9_leak ix).map (fun q => (q.1, q.2.1, ab_sp ab_hd q.2.2)) = some (n, rc, sp) → ex_cok l RX9 2 44 ix n rc sp := by
  intro ix n rc sp h
  obtain ⟨l0, h2, rfl⟩ := ab_dmk h
  clear h
  unfold be_X9_leak at h2
  split at h2
  · cases h2; exact ec_cV (bm_X0_setLeak l) bw_X0_setLeak bv_X0_setLeak (by decide) (by decide) (Or.inl ba_X9_leak.2.2.2.2.1) (T := TX0) (N := 8) rfl (by decide) bp_X0_setLeak
  · cases h2; exact ec_cV (bm_X9_counted l) bw_X9_counted bv_X9_counted (by decide) (by decide) (Or.inl ba_X9_leak.2.2.2.2.2.1) (T := TX9) (N := 10) rfl (by decide) bp_X9_counted
  · cases h2
theorem bj_X9_leak (l : Launch) : ex_ok l 2 44 bx_X9_leak := ec_okp fo_X9 co_X9 so_X9 (bk_X9_leak l)
theorem bm_X9_leak (l : Launch) : ex_Met l yX9_leak cX9_leak 3 (some .int) 2 44 (ab_sp ab_hd bc_X9_leak) := ab_met (by decide) pn_RX9 rfl (bj_X9_leak l) bd_X9_leak ab_hcm ab_xk bz_X9_leak
theorem ba_X9_tank : ec_al [(484, Cond.code yX9_tank cX9_tank 3 (some .int)), (58, Cond.initialized yX9_tank.cls), (482, Cond.instanceMethod yX9_tank), (483, Cond.selects yX9_tank.cls yX9_tank yX9_tank), (485, Cond.methodLink RX9 82 yX0_setStored), (424, Cond.methodLink RX9 64 yX9_counted)] := ec_alk (by decide +kernel)
theorem bw_X9_tank : ec_cw yX9_tank cX9_tank 3 (some .int) := ⟨ba_X9_tank.1, ba_X9_tank.2.1, nc_RX9⟩
theorem bv_X9_tank : Cond.instanceMethod yX9_tank ∈ ec_tb ∧ Cond.selects yX9_tank.cls yX9_tank yX9_tank ∈ ec_tb := ⟨ba_X9_tank.2.2.1, ba_X9_tank.2.2.2.1⟩
theorem bp_X9_tank : (parseMethodDescriptor yX9_tank.desc).map (fun d => d.parameters.length) = some 2 := by decide +kernel
theorem bk_X9_tank (l : Launch) : ∀ (ix n : Nat) (rc : Option Nat) (sp : ex_S), (be_X9_tank ix).map (fun q => (q.1, q.2.1, ab_sp ab_hd q.2.2)) = some (n, rc, sp) → ex_cok l RX9 1 23 ix n rc sp := by
  intro ix n rc sp h
  obtain ⟨l0, h2, rfl⟩ := ab_dmk h
  clear h
  unfold be_X9_tank at h2
  split at h2
  · cases h2; exact ec_cV (bm_X0_setStored l) bw_X0_setStored bv_X0_setStored (by decide) (by decide) (Or.inl ba_X9_tank.2.2.2.2.1) (T := TX0) (N := 8) rfl (by decide) bp_X0_setStored
  · cases h2; exact ec_cV (bm_X9_counted l) bw_X9_counted bv_X9_counted (by decide) (by decide) (Or.inl ba_X9_tank.2.2.2.2.2.1) (T := TX9) (N := 10) rfl (by decide) bp_X9_counted
  · cases h2
theorem bj_X9_tank (l : Launch) : ex_ok l 1 23 bx_X9_tank := ec_okp fo_X9 co_X9 so_X9 (bk_X9_tank l)
theorem bm_X9_tank (l : Launch) : ex_Met l yX9_tank cX9_tank 3 (some .int) 1 23 (ab_sp ab_hd bc_X9_tank) := ab_met (by decide) pn_RX9 rfl (bj_X9_tank l) bd_X9_tank ab_hcm ab_xk bz_X9_tank
theorem ba_X9_grams : ec_al [(493, Cond.code yX9_grams cX9_grams 1 (some .int)), (58, Cond.initialized yX9_grams.cls), (491, Cond.instanceMethod yX9_grams), (492, Cond.selects yX9_grams.cls yX9_grams yX9_grams), (494, Cond.methodLink RX9 85 yX0_allGrams)] := ec_alk (by decide +kernel)
theorem bw_X9_grams : ec_cw yX9_grams cX9_grams 1 (some .int) := ⟨ba_X9_grams.1, ba_X9_grams.2.1, nc_RX9⟩
theorem bv_X9_grams : Cond.instanceMethod yX9_grams ∈ ec_tb ∧ Cond.selects yX9_grams.cls yX9_grams yX9_grams ∈ ec_tb := ⟨ba_X9_grams.2.2.1, ba_X9_grams.2.2.2.1⟩
theorem bp_X9_grams : (parseMethodDescriptor yX9_grams.desc).map (fun d => d.parameters.length) = some 0 := by decide +kernel
theorem bk_X9_grams (l : Launch) : ∀ (ix n : Nat) (rc : Option Nat) (sp : ex_S), (be_X9_grams ix).map (fun q => (q.1, q.2.1, ab_sp ab_hd q.2.2)) = some (n, rc, sp) → ex_cok l RX9 1 23 ix n rc sp := by
  intro ix n rc sp h
  obtain ⟨l0, h2, rfl⟩ := ab_dmk h
  clear h
  unfold be_X9_grams at h2
  split at h2
  · cases h2; exact ec_cV (bm_X0_allGrams l) bw_X0_allGrams bv_X0_allGrams (by decide) (by decide) (Or.inl ba_X9_grams.2.2.2.2.1) (T := TX0) (N := 8) rfl (by decide) bp_X0_allGrams
  · cases h2
theorem bj_X9_grams (l : Launch) : ex_ok l 1 23 bx_X9_grams := ec_okp fo_X9 co_X9 so_X9 (bk_X9_grams l)
theorem bm_X9_grams (l : Launch) : ex_Met l yX9_grams cX9_grams 1 (some .int) 1 23 (ab_sp ab_hd bc_X9_grams) := ab_met (by decide) pn_RX9 rfl (bj_X9_grams l) bd_X9_grams ab_hcm ab_xk bz_X9_grams

theorem ba_X5_tooMuch : ec_al [(1028, Cond.code yX5_tooMuch cX5_tooMuch 6 (some .int)), (67, Cond.initialized yX5_tooMuch.cls), (1027, Cond.instanceMethod yX5_tooMuch), (22, Cond.selects yX5_tooMuch.cls yX5_tooMuch yX5_tooMuch), (1029, Cond.methodLink RX5 54 yX5_between)] := ec_alk (by decide +kernel)
theorem bw_X5_tooMuch : ec_cw yX5_tooMuch cX5_tooMuch 6 (some .int) := ⟨ba_X5_tooMuch.1, ba_X5_tooMuch.2.1, nc_RX5⟩
theorem bv_X5_tooMuch : Cond.instanceMethod yX5_tooMuch ∈ ec_tb ∧ Cond.selects yX5_tooMuch.cls yX5_tooMuch yX5_tooMuch ∈ ec_tb := ⟨ba_X5_tooMuch.2.2.1, ba_X5_tooMuch.2.2.2.1⟩
theorem bp_X5_tooMuch : (parseMethodDescriptor yX5_tooMuch.desc).map (fun d => d.parameters.length) = some 2 := by decide +kernel
theorem bk_X5_tooMuch (l : Launch) : ∀ (ix n : Nat) (rc : Option Nat) (sp : ex_S), (be_X5_tooMuch ix).map (fun q => (q.1, q.2.1, ab_sp ab_hd q.2.2)) = some (n, rc, sp) → ex_cok l RX5 1 25 ix n rc sp := by
  intro ix n rc sp h
  obtain ⟨l0, h2, rfl⟩ := ab_dmk h
  clear h
  unfold be_X5_tooMuch at h2
  split at h2
  · cases h2; exact ec_cV (bm_X5_between l) bw_X5_between bv_X5_between (by decide) (by decide) (Or.inl ba_X5_tooMuch.2.2.2.2.1) (T := TX5) (N := 10) rfl (by decide) bp_X5_between
  · cases h2
theorem bj_X5_tooMuch (l : Launch) : ex_ok l 1 25 bx_X5_tooMuch := ec_okp fo_X5 co_X5 so_X5 (bk_X5_tooMuch l)
theorem dX5_tooMuch_0 : decode cX5_tooMuch 0 = .ok (.iconst (-1), 1) := by decide +kernel
theorem dX5_tooMuch_1 : decode cX5_tooMuch 1 = .ok (.istore_n 3, 1) := by decide +kernel
theorem dX5_tooMuch_2 : decode cX5_tooMuch 2 = .ok (.iconst (-1), 1) := by decide +kernel
theorem dX5_tooMuch_3 : decode cX5_tooMuch 3 = .ok (.istore 4, 2) := by decide +kernel
theorem dX5_tooMuch_5 : decode cX5_tooMuch 5 = .ok (.iconst 0, 1) := by decide +kernel
theorem dX5_tooMuch_6 : decode cX5_tooMuch 6 = .ok (.istore 5, 2) := by decide +kernel
theorem dX5_tooMuch_8 : decode cX5_tooMuch 8 = .ok (.iload 5, 2) := by decide +kernel
theorem dX5_tooMuch_10 : decode cX5_tooMuch 10 = .ok (.aload_n 0, 1) := by decide +kernel
theorem dX5_tooMuch_11 : decode cX5_tooMuch 11 = .ok (.getfield 46, 3) := by decide +kernel
theorem dX5_tooMuch_14 : decode cX5_tooMuch 14 = .ok (.if_icmp .ge 66, 3) := by decide +kernel
theorem dX5_tooMuch_17 : decode cX5_tooMuch 17 = .ok (.aload_n 0, 1) := by decide +kernel
theorem dX5_tooMuch_18 : decode cX5_tooMuch 18 = .ok (.getfield 24, 3) := by decide +kernel
theorem dX5_tooMuch_21 : decode cX5_tooMuch 21 = .ok (.iload 5, 2) := by decide +kernel
theorem dX5_tooMuch_23 : decode cX5_tooMuch 23 = .ok (.iaload, 1) := by decide +kernel
theorem dX5_tooMuch_24 : decode cX5_tooMuch 24 = .ok (.iload_n 1, 1) := by decide +kernel
theorem dX5_tooMuch_25 : decode cX5_tooMuch 25 = .ok (.if_icmp .eq 6, 3) := by decide +kernel
theorem dX5_tooMuch_28 : decode cX5_tooMuch 28 = .ok (.goto 46, 3) := by decide +kernel
theorem dX5_tooMuch_31 : decode cX5_tooMuch 31 = .ok (.aload_n 0, 1) := by decide +kernel
theorem dX5_tooMuch_32 : decode cX5_tooMuch 32 = .ok (.getfield 27, 3) := by decide +kernel
theorem dX5_tooMuch_35 : decode cX5_tooMuch 35 = .ok (.iload 5, 2) := by decide +kernel
theorem dX5_tooMuch_37 : decode cX5_tooMuch 37 = .ok (.iaload, 1) := by decide +kernel
theorem dX5_tooMuch_38 : decode cX5_tooMuch 38 = .ok (.iload_n 2, 1) := by decide +kernel
theorem dX5_tooMuch_39 : decode cX5_tooMuch 39 = .ok (.if_icmp .gt 9, 3) := by decide +kernel
theorem dX5_tooMuch_42 : decode cX5_tooMuch 42 = .ok (.iload 5, 2) := by decide +kernel
theorem dX5_tooMuch_44 : decode cX5_tooMuch 44 = .ok (.istore_n 3, 1) := by decide +kernel
theorem dX5_tooMuch_45 : decode cX5_tooMuch 45 = .ok (.goto 29, 3) := by decide +kernel
theorem dX5_tooMuch_48 : decode cX5_tooMuch 48 = .ok (.iload 4, 2) := by decide +kernel
theorem dX5_tooMuch_50 : decode cX5_tooMuch 50 = .ok (.ifCond .lt 20, 3) := by decide +kernel
theorem dX5_tooMuch_53 : decode cX5_tooMuch 53 = .ok (.aload_n 0, 1) := by decide +kernel
theorem dX5_tooMuch_54 : decode cX5_tooMuch 54 = .ok (.getfield 27, 3) := by decide +kernel
theorem dX5_tooMuch_57 : decode cX5_tooMuch 57 = .ok (.iload 5, 2) := by decide +kernel
theorem dX5_tooMuch_59 : decode cX5_tooMuch 59 = .ok (.iaload, 1) := by decide +kernel
theorem dX5_tooMuch_60 : decode cX5_tooMuch 60 = .ok (.aload_n 0, 1) := by decide +kernel
theorem dX5_tooMuch_61 : decode cX5_tooMuch 61 = .ok (.getfield 27, 3) := by decide +kernel
theorem dX5_tooMuch_64 : decode cX5_tooMuch 64 = .ok (.iload 4, 2) := by decide +kernel
theorem dX5_tooMuch_66 : decode cX5_tooMuch 66 = .ok (.iaload, 1) := by decide +kernel
theorem dX5_tooMuch_67 : decode cX5_tooMuch 67 = .ok (.if_icmp .ne 7, 3) := by decide +kernel
theorem dX5_tooMuch_70 : decode cX5_tooMuch 70 = .ok (.iload 5, 2) := by decide +kernel
theorem dX5_tooMuch_72 : decode cX5_tooMuch 72 = .ok (.istore 4, 2) := by decide +kernel
theorem dX5_tooMuch_74 : decode cX5_tooMuch 74 = .ok (.iinc 5 1, 3) := by decide +kernel
theorem dX5_tooMuch_77 : decode cX5_tooMuch 77 = .ok (.goto (-69), 3) := by decide +kernel
theorem dX5_tooMuch_80 : decode cX5_tooMuch 80 = .ok (.iload_n 3, 1) := by decide +kernel
theorem dX5_tooMuch_81 : decode cX5_tooMuch 81 = .ok (.ifCond .ge 20, 3) := by decide +kernel
theorem dX5_tooMuch_84 : decode cX5_tooMuch 84 = .ok (.iload 4, 2) := by decide +kernel
theorem dX5_tooMuch_86 : decode cX5_tooMuch 86 = .ok (.ifCond .ge 7, 3) := by decide +kernel
theorem dX5_tooMuch_89 : decode cX5_tooMuch 89 = .ok (.iconst 0, 1) := by decide +kernel
theorem dX5_tooMuch_90 : decode cX5_tooMuch 90 = .ok (.goto 10, 3) := by decide +kernel
theorem dX5_tooMuch_93 : decode cX5_tooMuch 93 = .ok (.aload_n 0, 1) := by decide +kernel
theorem dX5_tooMuch_94 : decode cX5_tooMuch 94 = .ok (.getfield 30, 3) := by decide +kernel
theorem dX5_tooMuch_97 : decode cX5_tooMuch 97 = .ok (.iload 4, 2) := by decide +kernel
theorem dX5_tooMuch_99 : decode cX5_tooMuch 99 = .ok (.iaload, 1) := by decide +kernel
theorem dX5_tooMuch_100 : decode cX5_tooMuch 100 = .ok (.ireturn, 1) := by decide +kernel
theorem dX5_tooMuch_101 : decode cX5_tooMuch 101 = .ok (.iload 4, 2) := by decide +kernel
theorem dX5_tooMuch_103 : decode cX5_tooMuch 103 = .ok (.ifCond .ge 12, 3) := by decide +kernel
theorem dX5_tooMuch_106 : decode cX5_tooMuch 106 = .ok (.aload_n 0, 1) := by decide +kernel
theorem dX5_tooMuch_107 : decode cX5_tooMuch 107 = .ok (.getfield 30, 3) := by decide +kernel
theorem dX5_tooMuch_110 : decode cX5_tooMuch 110 = .ok (.iload_n 3, 1) := by decide +kernel
theorem dX5_tooMuch_111 : decode cX5_tooMuch 111 = .ok (.iaload, 1) := by decide +kernel
theorem dX5_tooMuch_112 : decode cX5_tooMuch 112 = .ok (.goto 11, 3) := by decide +kernel
theorem dX5_tooMuch_115 : decode cX5_tooMuch 115 = .ok (.aload_n 0, 1) := by decide +kernel
theorem dX5_tooMuch_116 : decode cX5_tooMuch 116 = .ok (.iload_n 3, 1) := by decide +kernel
theorem dX5_tooMuch_117 : decode cX5_tooMuch 117 = .ok (.iload 4, 2) := by decide +kernel
theorem dX5_tooMuch_119 : decode cX5_tooMuch 119 = .ok (.iload_n 2, 1) := by decide +kernel
theorem dX5_tooMuch_120 : decode cX5_tooMuch 120 = .ok (.invokevirtual 54, 3) := by decide +kernel
theorem dX5_tooMuch_123 : decode cX5_tooMuch 123 = .ok (.ireturn, 1) := by decide +kernel
def tq_J (f g : Nat → Int32) (s t cal : Int32) (cs0 : ex_C) : Nat → ex_L → ex_V → ex_C → Prop := fun n lv st cs => st = [] ∧ cs = cs0 ∧ ∃ bf af i : Int32, lv = [some (.ref 66), some (.int s), some (.int t), some (.int bf), some (.int af), some (.int i)] ∧ wk_l f g s t i.toNatClampNeg = (bf.toInt, af.toInt) ∧ 0 ≤ i.toInt ∧ i.toInt ≤ cal.toInt ∧ (n : Int) = 20 - i.toInt
def tq_I (f g : Nat → Int32) (s t cal : Int32) (cs0 : ex_C) (pc : Nat) : Option (Nat → ex_L → ex_V → ex_C → Prop) := if pc = 8 then some (tq_J f g s t cal cs0) else none
def tq_B (f g : Nat → Int32) (s t cal : Int32) (cs0 : ex_C) (n : Nat) : Nat → Option (ex_L → ex_V → ex_C → Prop) := fun pc => (tq_I f g s t cal cs0 pc).map (fun J' lv st cs => ∃ n', n' < n ∧ J' n' lv st cs)
def tq_A (f g : Nat → Int32) (s t cal : Int32) (cs0 : ex_C) : Nat → Option (ex_L → ex_V → ex_C → Prop) := fun pc => (tq_I f g s t cal cs0 pc).map (fun J' lv st cs => ∃ n', J' n' lv st cs)
set_option maxRecDepth 100000 in
set_option maxHeartbeats 4000000 in
theorem tq_w8 {cs : ex_C} {Q : ex_Q} {s t : Int32} (hk : ab_hk ab_hd cs) {fs : List Value} (h66 : cs[66]? = some (.inr (5, fs))) {cal : Int32} (hs_calibrations : fs[8]? = some (.int cal)) (cal1 : 0 ≤ cal.toInt) (cal2 : cal.toInt ≤ 20) {f : Nat → Int32} (hs_setSensor : fs[4]? = some (.ref 71)) (h_f : cs[71]? = some (.inl (0, 20, .inl f))) {g : Nat → Int32} (hs_setTick : fs[5]? = some (.ref 72)) (h_g : cs[72]? = some (.inl (0, 20, .inl g))) {e : Nat → Int32} (hs_setOver : fs[6]? = some (.ref 73)) (h_e : cs[73]? = some (.inl (0, 20, .inl e))) (hQ : ∀ r cs', ab_hk ab_hd cs' → ab_fr [] cs cs' → r = wk_t true f g e s t cal.toNatClampNeg → Q (some (.int r)) cs') {n : Nat} {bf af i : Int32} (hw : wk_l f g s t i.toNatClampNeg = (bf.toInt, af.toInt)) (b3 : 0 ≤ i.toInt) (b4 : i.toInt ≤ cal.toInt) (hn : (n : Int) = 20 - i.toInt) : ex_wp ec_xt bx_X5_tooMuch cX5_tooMuch (some .int) (tq_B f g s t cal cs n) Q 90 8 [some (.ref 66), some (.int s), some (.int t), some (.int bf), some (.int af), some (.int i)] [] cs := by
  have z0 := hx_z0
  have hb := wx_l hw b3 (by omega)
  refine wq_iload dX5_tooMuch_8 rfl rfl ?_
  refine go_wp rfl (wq_aload_n dX5_tooMuch_10 rfl rfl ?_)
  refine go_wp rfl (wq_getfield dX5_tooMuch_11 fe_X5_46 h66 hs_calibrations rfl ?_)
  refine go_wp rfl (wq_icmp_ge (t := 80) dX5_tooMuch_14 (by decide) rfl (fun q1 => ?_) (fun q1 => ?_))
  · have q1' : Int32.toInt i ≥ Int32.toInt cal := (ab_ige (x := i) (y := cal)).1 q1
    refine go_wp rfl (wq_iload_n dX5_tooMuch_80 rfl rfl ?_)
    refine go_wp rfl (wq_if_ge (t := 101) dX5_tooMuch_81 (by decide) rfl (fun q2 => ?_) (fun q2 => ?_))
    · have q2' : Int32.toInt bf ≥ Int32.toInt 0 := (ab_ige (x := bf) (y := 0)).1 q2
      refine go_wp rfl (wq_iload dX5_tooMuch_101 rfl rfl ?_)
      refine go_wp rfl (wq_if_ge (t := 115) dX5_tooMuch_103 (by decide) rfl (fun q3 => ?_) (fun q3 => ?_))
      · have q3' : Int32.toInt af ≥ Int32.toInt 0 := (ab_ige (x := af) (y := 0)).1 q3
        refine go_wp rfl (wq_aload_n dX5_tooMuch_115 rfl rfl ?_)
        refine go_wp rfl (wq_iload_n dX5_tooMuch_116 rfl rfl ?_)
        refine go_wp rfl (wq_iload dX5_tooMuch_117 rfl rfl ?_)
        refine go_wp rfl (wq_iload_n dX5_tooMuch_119 rfl rfl ?_)
        refine go_wp rfl (wq_virtual (q := 4) (ci := 5) (a := 66) (av := [.ref 66, .int bf, .int af, .int t]) (r := []) dX5_tooMuch_120 rfl (Nat.le_of_ble_eq_true rfl) rfl rfl rfl (Nat.le_of_ble_eq_true rfl) h66 rfl (hx_call 0 (c := ([.inl 66, .inr (0, 19), .inr (0, 19), .inr ((-2147483648), 2147483647)], [], [], [(some ((-2147483648), 2147483647, some (900000004, 0)), [], [])])) rfl (hx_p3 ⟨by omega, by omega⟩ ⟨by omega, by omega⟩ (hx_tb t)) hk (fun r cs1 hp => ?_)))
        obtain ⟨hk1, hf1, x, rfl, hx⟩ := hx_ret hp
        rw [hx_g4 (gi_a h_g) (gi_a h_e)] at hx
        have hxe := Int32.toInt_inj.mp hx
        refine ret_int ?_
        refine go_wp rfl (wq_ireturn dX5_tooMuch_123 trivial (by have ei : i = cal := Int32.toInt_inj.mp (by omega); rw [ei] at hw; exact hQ _ _ hk1 hf1 (hxe.trans (wy_3 hw (by omega) (by omega)))))
      · have q3' : Int32.toInt af < Int32.toInt 0 := (ab_ige (x := af) (y := 0)).2 q3
        refine go_wp rfl (wq_aload_n dX5_tooMuch_106 rfl rfl ?_)
        refine go_wp rfl (wq_getfield dX5_tooMuch_107 fe_X5_30 h66 hs_setOver rfl ?_)
        refine go_wp rfl (wq_iload_n dX5_tooMuch_110 rfl rfl ?_)
        refine go_wp rfl (wq_iaload (v := (e bf.toNatClampNeg)) dX5_tooMuch_111 (by decide) h_e (hx_vp (by omega) (by omega)) rfl rfl ?_)
        refine go_wp rfl (wq_goto (t := 123) dX5_tooMuch_112 (by decide) ?_)
        refine go_wp rfl (wq_ireturn dX5_tooMuch_123 trivial (by have ei : i = cal := Int32.toInt_inj.mp (by omega); rw [ei] at hw; exact hQ _ _ hk ab_rf0 (wy_2 hw (by omega) (by omega))))
    · have q2' : Int32.toInt bf < Int32.toInt 0 := (ab_ige (x := bf) (y := 0)).2 q2
      refine go_wp rfl (wq_iload dX5_tooMuch_84 rfl rfl ?_)
      refine go_wp rfl (wq_if_ge (t := 93) dX5_tooMuch_86 (by decide) rfl (fun q4 => ?_) (fun q4 => ?_))
      · have q4' : Int32.toInt af ≥ Int32.toInt 0 := (ab_ige (x := af) (y := 0)).1 q4
        refine go_wp rfl (wq_aload_n dX5_tooMuch_93 rfl rfl ?_)
        refine go_wp rfl (wq_getfield dX5_tooMuch_94 fe_X5_30 h66 hs_setOver rfl ?_)
        refine go_wp rfl (wq_iload dX5_tooMuch_97 rfl rfl ?_)
        refine go_wp rfl (wq_iaload (v := (e af.toNatClampNeg)) dX5_tooMuch_99 (by decide) h_e (hx_vp (by omega) (by omega)) rfl rfl ?_)
        refine go_wp rfl (wq_ireturn dX5_tooMuch_100 trivial (by have ei : i = cal := Int32.toInt_inj.mp (by omega); rw [ei] at hw; exact hQ _ _ hk ab_rf0 (wy_1 hw (by omega) (by omega))))
      · have q4' : Int32.toInt af < Int32.toInt 0 := (ab_ige (x := af) (y := 0)).2 q4
        refine go_wp rfl (wq_iconst (v := 0) dX5_tooMuch_89 (by decide) rfl ?_)
        refine go_wp rfl (wq_goto (t := 100) dX5_tooMuch_90 (by decide) ?_)
        refine go_wp rfl (wq_ireturn dX5_tooMuch_100 trivial (by have ei : i = cal := Int32.toInt_inj.mp (by omega); rw [ei] at hw; exact hQ _ _ hk ab_rf0 (wy_0 hw (by omega) (by omega))))
  · have q1' : Int32.toInt i < Int32.toInt cal := (ab_ige (x := i) (y := cal)).2 q1
    refine go_wp rfl (wq_aload_n dX5_tooMuch_17 rfl rfl ?_)
    refine go_wp rfl (wq_getfield dX5_tooMuch_18 fe_X5_24 h66 hs_setSensor rfl ?_)
    refine go_wp rfl (wq_iload dX5_tooMuch_21 rfl rfl ?_)
    refine go_wp rfl (wq_iaload (v := (f i.toNatClampNeg)) dX5_tooMuch_23 (by decide) h_f (hx_vp (by omega) (by omega)) rfl rfl ?_)
    refine go_wp rfl (wq_iload_n dX5_tooMuch_24 rfl rfl ?_)
    refine go_wp rfl (wq_icmp_eq (t := 31) dX5_tooMuch_25 (by decide) rfl (fun q5 => ?_) (fun q5 => ?_))
    · have q5' : Int32.toInt (f i.toNatClampNeg) = Int32.toInt s := (ab_ieq (x := (f i.toNatClampNeg)) (y := s)).1 q5
      refine go_wp rfl (wq_aload_n dX5_tooMuch_31 rfl rfl ?_)
      refine go_wp rfl (wq_getfield dX5_tooMuch_32 fe_X5_27 h66 hs_setTick rfl ?_)
      refine go_wp rfl (wq_iload dX5_tooMuch_35 rfl rfl ?_)
      refine go_wp rfl (wq_iaload (v := (g i.toNatClampNeg)) dX5_tooMuch_37 (by decide) h_g (hx_vp (by omega) (by omega)) rfl rfl ?_)
      refine go_wp rfl (wq_iload_n dX5_tooMuch_38 rfl rfl ?_)
      refine go_wp rfl (wq_icmp_gt (t := 48) dX5_tooMuch_39 (by decide) rfl (fun q6 => ?_) (fun q6 => ?_))
      · have q6' : Int32.toInt (g i.toNatClampNeg) > Int32.toInt t := (ab_igt (x := (g i.toNatClampNeg)) (y := t)).1 q6
        refine go_wp rfl (wq_iload dX5_tooMuch_48 rfl rfl ?_)
        refine go_wp rfl (wq_if_lt (t := 70) dX5_tooMuch_50 (by decide) rfl (fun q7 => ?_) (fun q7 => ?_))
        · have q7' : Int32.toInt af < Int32.toInt 0 := (ab_ilt (x := af) (y := 0)).1 q7
          refine go_wp rfl (wq_iload dX5_tooMuch_70 rfl rfl ?_)
          refine go_wp rfl (wq_istore (lv' := [some (.ref 66), some (.int s), some (.int t), some (.int bf), some (.int i), some (.int i)]) dX5_tooMuch_72 ⟨Nat.le_of_ble_eq_true rfl, rfl⟩ rfl rfl ?_)
          refine go_wp rfl (wq_iinc (v := (i + Int32.ofInt 1)) (lv' := [some (.ref 66), some (.int s), some (.int t), some (.int bf), some (.int i), some (.int (i + Int32.ofInt 1))]) dX5_tooMuch_74 rfl ⟨Nat.le_of_ble_eq_true rfl, rfl⟩ rfl rfl rfl ?_)
          refine go_wp rfl (wq_goto (t := 8) dX5_tooMuch_77 (by decide) ?_)
          have hi := hx_inc (x := i) (by omega) (by omega)
          exact go_cut rfl ⟨(20 - (i.toInt + 1)).toNat, (by omega), rfl, rfl, _, _, _, rfl, wx_2 hw b3 (by omega) q5' q6' (Or.inl (by rw [hx_z0] at q7'; exact q7')), (by omega), (by omega), (by omega)⟩
        · have q7' : Int32.toInt af ≥ Int32.toInt 0 := (ab_ilt (x := af) (y := 0)).2 q7
          refine go_wp rfl (wq_aload_n dX5_tooMuch_53 rfl rfl ?_)
          refine go_wp rfl (wq_getfield dX5_tooMuch_54 fe_X5_27 h66 hs_setTick rfl ?_)
          refine go_wp rfl (wq_iload dX5_tooMuch_57 rfl rfl ?_)
          refine go_wp rfl (wq_iaload (v := (g i.toNatClampNeg)) dX5_tooMuch_59 (by decide) h_g (hx_vp (by omega) (by omega)) rfl rfl ?_)
          refine go_wp rfl (wq_aload_n dX5_tooMuch_60 rfl rfl ?_)
          refine go_wp rfl (wq_getfield dX5_tooMuch_61 fe_X5_27 h66 hs_setTick rfl ?_)
          refine go_wp rfl (wq_iload dX5_tooMuch_64 rfl rfl ?_)
          refine go_wp rfl (wq_iaload (v := (g af.toNatClampNeg)) dX5_tooMuch_66 (by decide) h_g (hx_vp (by omega) (by omega)) rfl rfl ?_)
          refine go_wp rfl (wq_icmp_ne (t := 74) dX5_tooMuch_67 (by decide) rfl (fun q8 => ?_) (fun q8 => ?_))
          · have q8' : Int32.toInt (g i.toNatClampNeg) ≠ Int32.toInt (g af.toNatClampNeg) := (ab_ieq (x := (g i.toNatClampNeg)) (y := (g af.toNatClampNeg))).2 q8
            refine go_wp rfl (wq_iinc (v := (i + Int32.ofInt 1)) (lv' := [some (.ref 66), some (.int s), some (.int t), some (.int bf), some (.int af), some (.int (i + Int32.ofInt 1))]) dX5_tooMuch_74 rfl ⟨Nat.le_of_ble_eq_true rfl, rfl⟩ rfl rfl rfl ?_)
            refine go_wp rfl (wq_goto (t := 8) dX5_tooMuch_77 (by decide) ?_)
            have hi := hx_inc (x := i) (by omega) (by omega)
            exact go_cut rfl ⟨(20 - (i.toInt + 1)).toNat, (by omega), rfl, rfl, _, _, _, rfl, wx_3 hw b3 (by omega) q5' q6' (by omega) q8', (by omega), (by omega), (by omega)⟩
          · have q8' : Int32.toInt (g i.toNatClampNeg) = Int32.toInt (g af.toNatClampNeg) := (ab_ieq (x := (g i.toNatClampNeg)) (y := (g af.toNatClampNeg))).1 q8
            refine go_wp rfl (wq_iload dX5_tooMuch_70 rfl rfl ?_)
            refine go_wp rfl (wq_istore (lv' := [some (.ref 66), some (.int s), some (.int t), some (.int bf), some (.int i), some (.int i)]) dX5_tooMuch_72 ⟨Nat.le_of_ble_eq_true rfl, rfl⟩ rfl rfl ?_)
            refine go_wp rfl (wq_iinc (v := (i + Int32.ofInt 1)) (lv' := [some (.ref 66), some (.int s), some (.int t), some (.int bf), some (.int i), some (.int (i + Int32.ofInt 1))]) dX5_tooMuch_74 rfl ⟨Nat.le_of_ble_eq_true rfl, rfl⟩ rfl rfl rfl ?_)
            refine go_wp rfl (wq_goto (t := 8) dX5_tooMuch_77 (by decide) ?_)
            have hi := hx_inc (x := i) (by omega) (by omega)
            exact go_cut rfl ⟨(20 - (i.toInt + 1)).toNat, (by omega), rfl, rfl, _, _, _, rfl, wx_2 hw b3 (by omega) q5' q6' (Or.inr q8'), (by omega), (by omega), (by omega)⟩
      · have q6' : Int32.toInt (g i.toNatClampNeg) ≤ Int32.toInt t := (ab_igt (x := (g i.toNatClampNeg)) (y := t)).2 q6
        refine go_wp rfl (wq_iload dX5_tooMuch_42 rfl rfl ?_)
        refine go_wp rfl (wq_istore_n (lv' := [some (.ref 66), some (.int s), some (.int t), some (.int i), some (.int af), some (.int i)]) dX5_tooMuch_44 ⟨Nat.le_of_ble_eq_true rfl, rfl⟩ rfl rfl ?_)
        refine go_wp rfl (wq_goto (t := 74) dX5_tooMuch_45 (by decide) ?_)
        refine go_wp rfl (wq_iinc (v := (i + Int32.ofInt 1)) (lv' := [some (.ref 66), some (.int s), some (.int t), some (.int i), some (.int af), some (.int (i + Int32.ofInt 1))]) dX5_tooMuch_74 rfl ⟨Nat.le_of_ble_eq_true rfl, rfl⟩ rfl rfl rfl ?_)
        refine go_wp rfl (wq_goto (t := 8) dX5_tooMuch_77 (by decide) ?_)
        have hi := hx_inc (x := i) (by omega) (by omega)
        exact go_cut rfl ⟨(20 - (i.toInt + 1)).toNat, (by omega), rfl, rfl, _, _, _, rfl, wx_1 hw b3 (by omega) q5' q6', (by omega), (by omega), (by omega)⟩
    · have q5' : Int32.toInt (f i.toNatClampNeg) ≠ Int32.toInt s := (ab_ieq (x := (f i.toNatClampNeg)) (y := s)).2 q5
      refine go_wp rfl (wq_goto (t := 74) dX5_tooMuch_28 (by decide) ?_)
      refine go_wp rfl (wq_iinc (v := (i + Int32.ofInt 1)) (lv' := [some (.ref 66), some (.int s), some (.int t), some (.int bf), some (.int af), some (.int (i + Int32.ofInt 1))]) dX5_tooMuch_74 rfl ⟨Nat.le_of_ble_eq_true rfl, rfl⟩ rfl rfl rfl ?_)
      refine go_wp rfl (wq_goto (t := 8) dX5_tooMuch_77 (by decide) ?_)
      have hi := hx_inc (x := i) (by omega) (by omega)
      exact go_cut rfl ⟨(20 - (i.toInt + 1)).toNat, (by omega), rfl, rfl, _, _, _, rfl, wx_0 hw b3 (by omega) q5', (by omega), (by omega), (by omega)⟩
set_option maxRecDepth 100000 in
set_option maxHeartbeats 4000000 in
theorem tq_w0 {cs : ex_C} {Q : ex_Q} {f g : Nat → Int32} {s t cal : Int32} (cal1 : 0 ≤ cal.toInt) : ex_wp ec_xt bx_X5_tooMuch cX5_tooMuch (some .int) (tq_A f g s t cal cs) Q 90 0 [some (.ref 66), some (.int s), some (.int t), none, none, none] [] cs := by
  refine wq_iconst (v := (-1)) dX5_tooMuch_0 (by decide) rfl ?_
  refine go_wp rfl (wq_istore_n (lv' := [some (.ref 66), some (.int s), some (.int t), some (.int (-1)), none, none]) dX5_tooMuch_1 ⟨Nat.le_of_ble_eq_true rfl, rfl⟩ rfl rfl ?_)
  refine go_wp rfl (wq_iconst (v := (-1)) dX5_tooMuch_2 (by decide) rfl ?_)
  refine go_wp rfl (wq_istore (lv' := [some (.ref 66), some (.int s), some (.int t), some (.int (-1)), some (.int (-1)), none]) dX5_tooMuch_3 ⟨Nat.le_of_ble_eq_true rfl, rfl⟩ rfl rfl ?_)
  refine go_wp rfl (wq_iconst (v := 0) dX5_tooMuch_5 (by decide) rfl ?_)
  refine go_wp rfl (wq_istore (lv' := [some (.ref 66), some (.int s), some (.int t), some (.int (-1)), some (.int (-1)), some (.int 0)]) dX5_tooMuch_6 ⟨Nat.le_of_ble_eq_true rfl, rfl⟩ rfl rfl ?_)
  exact go_cut rfl ⟨20, rfl, rfl, _, _, _, rfl, rfl, (by rw [hx_z0]; omega), (by rw [hx_z0]; omega), (by rw [hx_z0]; omega)⟩
set_option maxRecDepth 100000 in
theorem bm_X5_tooMuch (l : Launch) : ex_Met l yX5_tooMuch cX5_tooMuch 6 (some .int) 1 25 (ab_sp ab_hd bc_X5_tooMuch) := by
  intro D ad ca n sz av cs Q h
  refine ex_lmet (by decide) rfl (bj_X5_tooMuch l) D ad ca n sz av cs Q ?_
  obtain ⟨c, hc, ⟨hp1, hp2, -⟩, hk, hQ⟩ := h
  have hc' : c = ([.inl 66, .inr (-2147483648, 2147483647), .inr (-2147483648, 2147483647)], [], [], [(some (-2147483648, 2147483647, some (900000002, 0)), [], [])]) := by
    unfold bc_X5_tooMuch bq_X5_tooMuch at hc
    simpa using hc
  subst hc'
  obtain ⟨v0, e0, h0⟩ := hp2 0 _ rfl
  obtain ⟨v1, e1, s, rfl, s1, s2⟩ := hp2 1 _ rfl
  obtain ⟨v2, e2, t, rfl, t1, t2⟩ := hp2 2 _ rfl
  cases h0
  have hav : av = [.ref 66, .int s, .int t] := hx_av3 hp1 e0 e1 e2
  subst hav
  obtain ⟨fs, h66, -, hj⟩ := hk.obj (a := 66) (ci := 5) rfl
  obtain ⟨hv_cal, hs_calibrations, cal, rfl, cal1, cal2⟩ := hj 8 (.inr (0, 20)) rfl
  have hs_setSensor : fs[4]? = some (.ref 71) := by
    obtain ⟨v, hv, hc⟩ := hj 4 (.inl 71) rfl
    cases hc
    exact hv
  obtain ⟨f, h_f, -⟩ := hk.arr (a := 71) (t := 0) (n := 20) (m := 20) (lo := -2147483648) (hi := 2147483647) rfl (by decide)
  have hs_setTick : fs[5]? = some (.ref 72) := by
    obtain ⟨v, hv, hc⟩ := hj 5 (.inl 72) rfl
    cases hc
    exact hv
  obtain ⟨g, h_g, -⟩ := hk.arr (a := 72) (t := 0) (n := 20) (m := 20) (lo := -2147483648) (hi := 2147483647) rfl (by decide)
  have hs_setOver : fs[6]? = some (.ref 73) := by
    obtain ⟨v, hv, hc⟩ := hj 6 (.inl 73) rfl
    cases hc
    exact hv
  obtain ⟨e, h_e, -⟩ := hk.arr (a := 73) (t := 0) (n := 20) (m := 20) (lo := -2147483648) (hi := 2147483647) rfl (by decide)
  have hQ' : ∀ r cs', ab_hk ab_hd cs' → ab_fr [] cs cs' → r = wk_t true f g e s t cal.toNatClampNeg → Q (some (.int r)) cs' := by
    intro r cs' hk' hf hr
    refine hQ _ _ ⟨hk', hf, _, List.mem_cons_self, ⟨r, rfl, hx_tb r, fun d hd => ?_⟩, fun q hq => (by cases hq), fun q hq => (by cases hq)⟩
    cases hd
    rw [hx_g2 (gi_a h_f) (gi_a h_g) (gi_a h_e) (gi_o h66 hs_calibrations), hr]
    show _ = _ + (0 : Int)
    omega
  refine sl_in 90 (tq_I f g s t cal cs) rfl (Nat.le_of_ble_eq_true rfl) rfl (tq_w0 cal1) (fun pc J n lv st cs' hI hJ => ?_)
  unfold tq_I at hI
  split at hI
  · rename_i e'
    subst e'
    cases hI
    obtain ⟨rfl, rfl, bf, af, i, rfl, hw, b3, b4, hn⟩ := hJ
    exact tq_w8 hk h66 hs_calibrations cal1 cal2 hs_setSensor h_f hs_setTick h_g hs_setOver h_e hQ' hw b3 b4 hn
  · cases hI
theorem ba_X5_workedBack : ec_al [(1024, Cond.code yX5_workedBack cX5_workedBack 2 (some .int)), (67, Cond.initialized yX5_workedBack.cls), (1022, Cond.instanceMethod yX5_workedBack), (1023, Cond.selects yX5_workedBack.cls yX5_workedBack yX5_workedBack), (1025, Cond.methodLink RX5 50 yX5_tooMuch)] := ec_alk (by decide +kernel)
theorem bw_X5_workedBack : ec_cw yX5_workedBack cX5_workedBack 2 (some .int) := ⟨ba_X5_workedBack.1, ba_X5_workedBack.2.1, nc_RX5⟩
theorem bv_X5_workedBack : Cond.instanceMethod yX5_workedBack ∈ ec_tb ∧ Cond.selects yX5_workedBack.cls yX5_workedBack yX5_workedBack ∈ ec_tb := ⟨ba_X5_workedBack.2.2.1, ba_X5_workedBack.2.2.2.1⟩
theorem bp_X5_workedBack : (parseMethodDescriptor yX5_workedBack.desc).map (fun d => d.parameters.length) = some 1 := by decide +kernel
theorem bk_X5_workedBack (l : Launch) : ∀ (ix n : Nat) (rc : Option Nat) (sp : ex_S), (be_X5_workedBack ix).map (fun q => (q.1, q.2.1, ab_sp ab_hd q.2.2)) = some (n, rc, sp) → ex_cok l RX5 2 50 ix n rc sp := by
  intro ix n rc sp h
  obtain ⟨l0, h2, rfl⟩ := ab_dmk h
  clear h
  unfold be_X5_workedBack at h2
  split at h2
  · cases h2; exact ec_cV (bm_X5_tooMuch l) bw_X5_tooMuch bv_X5_tooMuch (by decide) (by decide) (Or.inl ba_X5_workedBack.2.2.2.2.1) (T := TX5) (N := 10) rfl (by decide) bp_X5_tooMuch
  · cases h2
theorem bj_X5_workedBack (l : Launch) : ex_ok l 2 50 bx_X5_workedBack := ec_okp fo_X5 co_X5 so_X5 (bk_X5_workedBack l)
theorem dX5_workedBack_0 : decode cX5_workedBack 0 = .ok (.iload_n 1, 1) := by decide +kernel
theorem dX5_workedBack_1 : decode cX5_workedBack 1 = .ok (.ifCond .lt 11, 3) := by decide +kernel
theorem dX5_workedBack_4 : decode cX5_workedBack 4 = .ok (.iload_n 1, 1) := by decide +kernel
theorem dX5_workedBack_5 : decode cX5_workedBack 5 = .ok (.aload_n 0, 1) := by decide +kernel
theorem dX5_workedBack_6 : decode cX5_workedBack 6 = .ok (.getfield 42, 3) := by decide +kernel
theorem dX5_workedBack_9 : decode cX5_workedBack 9 = .ok (.if_icmp .lt 6, 3) := by decide +kernel
theorem dX5_workedBack_12 : decode cX5_workedBack 12 = .ok (.ldc 41, 2) := by decide +kernel
theorem dX5_workedBack_14 : decode cX5_workedBack 14 = .ok (.ireturn, 1) := by decide +kernel
theorem dX5_workedBack_15 : decode cX5_workedBack 15 = .ok (.aload_n 0, 1) := by decide +kernel
theorem dX5_workedBack_16 : decode cX5_workedBack 16 = .ok (.getfield 18, 3) := by decide +kernel
theorem dX5_workedBack_19 : decode cX5_workedBack 19 = .ok (.iload_n 1, 1) := by decide +kernel
theorem dX5_workedBack_20 : decode cX5_workedBack 20 = .ok (.iaload, 1) := by decide +kernel
theorem dX5_workedBack_21 : decode cX5_workedBack 21 = .ok (.aload_n 0, 1) := by decide +kernel
theorem dX5_workedBack_22 : decode cX5_workedBack 22 = .ok (.aload_n 0, 1) := by decide +kernel
theorem dX5_workedBack_23 : decode cX5_workedBack 23 = .ok (.getfield 9, 3) := by decide +kernel
theorem dX5_workedBack_26 : decode cX5_workedBack 26 = .ok (.iload_n 1, 1) := by decide +kernel
theorem dX5_workedBack_27 : decode cX5_workedBack 27 = .ok (.iaload, 1) := by decide +kernel
theorem dX5_workedBack_28 : decode cX5_workedBack 28 = .ok (.aload_n 0, 1) := by decide +kernel
theorem dX5_workedBack_29 : decode cX5_workedBack 29 = .ok (.getfield 15, 3) := by decide +kernel
theorem dX5_workedBack_32 : decode cX5_workedBack 32 = .ok (.iload_n 1, 1) := by decide +kernel
theorem dX5_workedBack_33 : decode cX5_workedBack 33 = .ok (.iaload, 1) := by decide +kernel
theorem dX5_workedBack_34 : decode cX5_workedBack 34 = .ok (.invokevirtual 50, 3) := by decide +kernel
theorem dX5_workedBack_37 : decode cX5_workedBack 37 = .ok (.isub, 1) := by decide +kernel
theorem dX5_workedBack_38 : decode cX5_workedBack 38 = .ok (.ireturn, 1) := by decide +kernel
theorem wz_b {c : Bool} {nr cal : Int32} {rs rt rv f g e : Nat → Int32} {r : Int} (h : r < 0 ∨ nr.toInt ≤ r) : (-1000000001 : Int) = wk_w c nr cal rs rt rv f g e r := by
  unfold wk_w
  rw [if_pos h]
theorem wz_v {c : Bool} {nr cal : Int32} {rs rt rv f g e : Nat → Int32} {r : Int32} (h : ¬ (r.toInt < 0 ∨ nr.toInt ≤ r.toInt)) : (rv r.toNatClampNeg - wk_t c f g e (rs r.toNatClampNeg) (rt r.toNatClampNeg) cal.toNatClampNeg).toInt = wk_w c nr cal rs rt rv f g e r.toInt := by
  unfold wk_w
  rw [if_neg h]
  rfl
theorem hx_fr {W : ab_W} {cs cs' : ex_C} (h : ab_fr [] cs cs') : ab_fr W cs cs' := fun k j _ => h k j rfl
set_option maxRecDepth 100000 in
set_option maxHeartbeats 4000000 in
theorem wb_w0 {cs : ex_C} {Q : ex_Q} {I : Nat → Option (ex_L → ex_V → ex_C → Prop)} {r : Int32} (hI : ∀ pc, I pc = none) (hk : ab_hk ab_hd cs) {fs : List Value} (h66 : cs[66]? = some (.inr (5, fs))) {nr : Int32} (hs_readings : fs[7]? = some (.int nr)) (nr1 : 0 ≤ nr.toInt) (nr2 : nr.toInt ≤ 40) {cal : Int32} (hs_calibrations : fs[8]? = some (.int cal)) (cal1 : 0 ≤ cal.toInt) (cal2 : cal.toInt ≤ 20) {rs : Nat → Int32} (hs_readSensor : fs[0]? = some (.ref 67)) (h_rs : cs[67]? = some (.inl (0, 40, .inl rs))) {rt : Nat → Int32} (hs_readTick : fs[1]? = some (.ref 68)) (h_rt : cs[68]? = some (.inl (0, 40, .inl rt))) {rv : Nat → Int32} (hs_readValue : fs[2]? = some (.ref 69)) (h_rv : cs[69]? = some (.inl (0, 40, .inl rv))) {f : Nat → Int32} (hs_setSensor : fs[4]? = some (.ref 71)) (h_f : cs[71]? = some (.inl (0, 20, .inl f))) {g : Nat → Int32} (hs_setTick : fs[5]? = some (.ref 72)) (h_g : cs[72]? = some (.inl (0, 20, .inl g))) {e : Nat → Int32} (hs_setOver : fs[6]? = some (.ref 73)) (h_e : cs[73]? = some (.inl (0, 20, .inl e))) (hQ : ∀ (x : Int32) cs', ab_hk ab_hd cs' → ab_fr [] cs cs' → x.toInt = wk_w true nr cal rs rt rv f g e r.toInt → Q (some (.int x)) cs') : ex_wp ec_xt bx_X5_workedBack cX5_workedBack (some .int) I Q 60 0 [some (.ref 66), some (.int r)] [] cs := by
  have z0 := hx_z0
  refine wq_iload_n dX5_workedBack_0 rfl rfl ?_
  refine go_wp (hI _) (wq_if_lt (t := 12) dX5_workedBack_1 (by decide) rfl (fun q1 => ?_) (fun q1 => ?_))
  · have q1' : Int32.toInt r < Int32.toInt 0 := (ab_ilt (x := r) (y := 0)).1 q1
    refine go_wp (hI _) (wq_ldc (v := -1000000001) dX5_workedBack_12 rfl rfl ?_)
    refine go_wp (hI _) (wq_ireturn dX5_workedBack_14 trivial (hQ _ _ hk ab_rf0 (Eq.trans (by decide) (wz_b (Or.inl (by omega))))))
  · have q1' : Int32.toInt r ≥ Int32.toInt 0 := (ab_ilt (x := r) (y := 0)).2 q1
    refine go_wp (hI _) (wq_iload_n dX5_workedBack_4 rfl rfl ?_)
    refine go_wp (hI _) (wq_aload_n dX5_workedBack_5 rfl rfl ?_)
    refine go_wp (hI _) (wq_getfield dX5_workedBack_6 fe_X5_42 h66 hs_readings rfl ?_)
    refine go_wp (hI _) (wq_icmp_lt (t := 15) dX5_workedBack_9 (by decide) rfl (fun q2 => ?_) (fun q2 => ?_))
    · have q2' : Int32.toInt r < Int32.toInt nr := (ab_ilt (x := r) (y := nr)).1 q2
      refine go_wp (hI _) (wq_aload_n dX5_workedBack_15 rfl rfl ?_)
      refine go_wp (hI _) (wq_getfield dX5_workedBack_16 fe_X5_18 h66 hs_readValue rfl ?_)
      refine go_wp (hI _) (wq_iload_n dX5_workedBack_19 rfl rfl ?_)
      refine go_wp (hI _) (wq_iaload (v := (rv r.toNatClampNeg)) dX5_workedBack_20 (by decide) h_rv (hx_vp (by omega) (by omega)) rfl rfl ?_)
      refine go_wp (hI _) (wq_aload_n dX5_workedBack_21 rfl rfl ?_)
      refine go_wp (hI _) (wq_aload_n dX5_workedBack_22 rfl rfl ?_)
      refine go_wp (hI _) (wq_getfield dX5_workedBack_23 fe_X5_9 h66 hs_readSensor rfl ?_)
      refine go_wp (hI _) (wq_iload_n dX5_workedBack_26 rfl rfl ?_)
      refine go_wp (hI _) (wq_iaload (v := (rs r.toNatClampNeg)) dX5_workedBack_27 (by decide) h_rs (hx_vp (by omega) (by omega)) rfl rfl ?_)
      refine go_wp (hI _) (wq_aload_n dX5_workedBack_28 rfl rfl ?_)
      refine go_wp (hI _) (wq_getfield dX5_workedBack_29 fe_X5_15 h66 hs_readTick rfl ?_)
      refine go_wp (hI _) (wq_iload_n dX5_workedBack_32 rfl rfl ?_)
      refine go_wp (hI _) (wq_iaload (v := (rt r.toNatClampNeg)) dX5_workedBack_33 (by decide) h_rt (hx_vp (by omega) (by omega)) rfl rfl ?_)
      refine go_wp (hI _) (wq_virtual (q := 3) (ci := 5) (a := 66) (av := [.ref 66, .int (rs r.toNatClampNeg), .int (rt r.toNatClampNeg)]) (r := [.int (rv r.toNatClampNeg)]) dX5_workedBack_34 rfl (Nat.le_of_ble_eq_true rfl) rfl rfl rfl (Nat.le_of_ble_eq_true rfl) h66 rfl (hx_call 0 (c := ([.inl 66, .inr ((-2147483648), 2147483647), .inr ((-2147483648), 2147483647)], [], [], [(some ((-2147483648), 2147483647, some (900000002, 0)), [], [])])) rfl (hx_p2 (hx_tb _) (hx_tb _)) hk (fun r1 cs1 hp => ?_)))
      obtain ⟨hk1, hf1, x, rfl, hx⟩ := hx_ret hp
      rw [hx_g2 (gi_a h_f) (gi_a h_g) (gi_a h_e) (gi_o h66 hs_calibrations)] at hx
      have hxe := Int32.toInt_inj.mp hx
      refine ret_int ?_
      refine go_wp (hI _) (wq_isub (v := ((rv r.toNatClampNeg) - x)) dX5_workedBack_37 rfl rfl ?_)
      refine go_wp (hI _) (wq_ireturn dX5_workedBack_38 trivial (hQ _ _ hk1 hf1 (by rw [hxe]; exact wz_v (by omega))))
    · have q2' : Int32.toInt r ≥ Int32.toInt nr := (ab_ilt (x := r) (y := nr)).2 q2
      refine go_wp (hI _) (wq_ldc (v := -1000000001) dX5_workedBack_12 rfl rfl ?_)
      refine go_wp (hI _) (wq_ireturn dX5_workedBack_14 trivial (hQ _ _ hk ab_rf0 (Eq.trans (by decide) (wz_b (Or.inr (by omega))))))
set_option maxRecDepth 100000 in
theorem bm_X5_workedBack (l : Launch) : ex_Met l yX5_workedBack cX5_workedBack 2 (some .int) 2 50 (ab_sp ab_hd bc_X5_workedBack) := by
  intro D ad ca n sz av cs Q h
  refine ex_lmet (by decide) rfl (bj_X5_workedBack l) D ad ca n sz av cs Q ?_
  obtain ⟨c, hc, ⟨hp1, hp2, -⟩, hk, hQ⟩ := h
  have hc' : c = ([.inl 66, .inr (-2147483648, 2147483647)], [], [], [(some (-2147483648, 2147483647, some (900000000, 0)), [], [])]) := by
    unfold bc_X5_workedBack bq_X5_workedBack at hc
    simpa using hc
  subst hc'
  obtain ⟨v0, e0, h0⟩ := hp2 0 _ rfl
  obtain ⟨v1, e1, r, rfl, r1, r2⟩ := hp2 1 _ rfl
  cases h0
  have hav : av = [.ref 66, .int r] := hx_av2 hp1 e0 e1
  subst hav
  obtain ⟨fs, h66, -, hj⟩ := hk.obj (a := 66) (ci := 5) rfl
  obtain ⟨hv_nr, hs_readings, nr, rfl, nr1, nr2⟩ := hj 7 (.inr (0, 40)) rfl
  obtain ⟨hv_cal, hs_calibrations, cal, rfl, cal1, cal2⟩ := hj 8 (.inr (0, 20)) rfl
  have hs_readSensor : fs[0]? = some (.ref 67) := by
    obtain ⟨v, hv, hc⟩ := hj 0 (.inl 67) rfl
    cases hc
    exact hv
  obtain ⟨rs, h_rs, -⟩ := hk.arr (a := 67) (t := 0) (n := 40) (m := 40) (lo := -2147483648) (hi := 2147483647) rfl (by decide)
  have hs_readTick : fs[1]? = some (.ref 68) := by
    obtain ⟨v, hv, hc⟩ := hj 1 (.inl 68) rfl
    cases hc
    exact hv
  obtain ⟨rt, h_rt, -⟩ := hk.arr (a := 68) (t := 0) (n := 40) (m := 40) (lo := -2147483648) (hi := 2147483647) rfl (by decide)
  have hs_readValue : fs[2]? = some (.ref 69) := by
    obtain ⟨v, hv, hc⟩ := hj 2 (.inl 69) rfl
    cases hc
    exact hv
  obtain ⟨rv, h_rv, -⟩ := hk.arr (a := 69) (t := 0) (n := 40) (m := 40) (lo := -2147483648) (hi := 2147483647) rfl (by decide)
  have hs_setSensor : fs[4]? = some (.ref 71) := by
    obtain ⟨v, hv, hc⟩ := hj 4 (.inl 71) rfl
    cases hc
    exact hv
  obtain ⟨f, h_f, -⟩ := hk.arr (a := 71) (t := 0) (n := 20) (m := 20) (lo := -2147483648) (hi := 2147483647) rfl (by decide)
  have hs_setTick : fs[5]? = some (.ref 72) := by
    obtain ⟨v, hv, hc⟩ := hj 5 (.inl 72) rfl
    cases hc
    exact hv
  obtain ⟨g, h_g, -⟩ := hk.arr (a := 72) (t := 0) (n := 20) (m := 20) (lo := -2147483648) (hi := 2147483647) rfl (by decide)
  have hs_setOver : fs[6]? = some (.ref 73) := by
    obtain ⟨v, hv, hc⟩ := hj 6 (.inl 73) rfl
    cases hc
    exact hv
  obtain ⟨e, h_e, -⟩ := hk.arr (a := 73) (t := 0) (n := 20) (m := 20) (lo := -2147483648) (hi := 2147483647) rfl (by decide)
  refine sl_in 60 (fun _ => none) rfl (Nat.le_of_ble_eq_true rfl) rfl (wb_w0 (fun _ => rfl) hk h66 hs_readings nr1 nr2 hs_calibrations cal1 cal2 hs_readSensor h_rs hs_readTick h_rt hs_readValue h_rv hs_setSensor h_f hs_setTick h_g hs_setOver h_e (fun x cs' hk' hf hr => ?_)) (fun pc J n lv st cs' hI hJ => (by cases hI))
  refine hQ _ _ ⟨hk', hf, _, List.mem_cons_self, ⟨x, rfl, hx_tb x, fun d hd => ?_⟩, fun q hq => (by cases hq), fun q hq => (by cases hq)⟩
  cases hd
  have ho : ab_oo ([Value.ref 66, .int r].map some) cs 900000000 = wk_w true nr cal rs rt rv f g e r.toInt := by
    have h := hx_oo (lv := [Value.ref 66, .int r].map some) (cs := cs) (n := 0) (by omega)
    rw [ge_0] at h
    unfold gh_0 at h
    rw [gi_o h66 hs_readings, gi_o h66 hs_calibrations, gi_a h_rs, gi_a h_rt, gi_a h_rv, gi_a h_f, gi_a h_g, gi_a h_e] at h
    exact h
  rw [ho, hr]
  show _ = _ + (0 : Int)
  omega
theorem ba_X6_becomeLike : ec_al [(890, Cond.code yX6_becomeLike cX6_becomeLike 2 none), (63, Cond.initialized yX6_becomeLike.cls), (888, Cond.instanceMethod yX6_becomeLike), (889, Cond.selects yX6_becomeLike.cls yX6_becomeLike yX6_becomeLike)] := ec_alk (by decide +kernel)
theorem bw_X6_becomeLike : ec_cw yX6_becomeLike cX6_becomeLike 2 none := ⟨ba_X6_becomeLike.1, ba_X6_becomeLike.2.1, nc_RX6⟩
theorem bv_X6_becomeLike : Cond.instanceMethod yX6_becomeLike ∈ ec_tb ∧ Cond.selects yX6_becomeLike.cls yX6_becomeLike yX6_becomeLike ∈ ec_tb := ⟨ba_X6_becomeLike.2.2.1, ba_X6_becomeLike.2.2.2.1⟩
theorem bp_X6_becomeLike : (parseMethodDescriptor yX6_becomeLike.desc).map (fun d => d.parameters.length) = some 1 := by decide +kernel
theorem bk_X6_becomeLike (l : Launch) : ∀ (ix n : Nat) (rc : Option Nat) (sp : ex_S), (be_X6_becomeLike ix).map (fun q => (q.1, q.2.1, ab_sp ab_hd q.2.2)) = some (n, rc, sp) → ex_cok l RX6 2 47 ix n rc sp := by
  intro ix n rc sp h
  obtain ⟨l0, h2, rfl⟩ := ab_dmk h
  clear h
  unfold be_X6_becomeLike at h2
  split at h2
  · cases h2; exact ec_cS (bm_X9_copy l) bw_X9_copy bv_X9_copy (by decide) (by decide) (Or.inr ⟨"TinStation", List.mem_of_getElem? (i := 8) rfl⟩) bp_X9_copy
  · cases h2; exact ec_cS (bm_X9_copyFlags l) bw_X9_copyFlags bv_X9_copyFlags (by decide) (by decide) (Or.inr ⟨"TinStation", List.mem_of_getElem? (i := 9) rfl⟩) bp_X9_copyFlags
  · cases h2
theorem bj_X6_becomeLike (l : Launch) : ex_ok l 2 47 bx_X6_becomeLike := ec_okp fo_X6 co_X6 so_X6 (bk_X6_becomeLike l)
theorem bm_X6_becomeLike (l : Launch) : ex_Met l yX6_becomeLike cX6_becomeLike 2 none 2 47 (ab_sp ab_hd bc_X6_becomeLike) := ab_met (by decide) pn_RX6 rfl (bj_X6_becomeLike l) bd_X6_becomeLike ab_hcm ab_xk bz_X6_becomeLike
theorem ba_X6_isKind : ec_al [(562, Cond.code yX6_isKind cX6_isKind 1 (some .boolean)), (63, Cond.initialized yX6_isKind.cls), (561, Cond.static yX6_isKind)] := ec_alk (by decide +kernel)
theorem bw_X6_isKind : ec_cw yX6_isKind cX6_isKind 1 (some .boolean) := ⟨ba_X6_isKind.1, ba_X6_isKind.2.1, nc_RX6⟩
theorem bv_X6_isKind : Cond.static yX6_isKind ∈ ec_tb := ba_X6_isKind.2.2.1
theorem bp_X6_isKind : (parseMethodDescriptor yX6_isKind.desc).map (fun d => d.parameters.length) = some 1 := by decide +kernel
theorem bj_X6_isKind (l : Launch) : ex_ok l 0 0 bx_X6_isKind := ec_okp fo_X6 co_X6 so_X6 (ec_okn)
theorem bm_X6_isKind (l : Launch) : ex_Met l yX6_isKind cX6_isKind 1 (some .boolean) 0 0 (ab_sp ab_hd bc_X6_isKind) := ab_met (by decide) pn_RX6 rfl (bj_X6_isKind l) bd_X6_isKind ab_hcm ab_xk bz_X6_isKind
theorem ba_X6_isUse : ec_al [(565, Cond.code yX6_isUse cX6_isUse 1 (some .boolean)), (63, Cond.initialized yX6_isUse.cls), (564, Cond.static yX6_isUse)] := ec_alk (by decide +kernel)
theorem bw_X6_isUse : ec_cw yX6_isUse cX6_isUse 1 (some .boolean) := ⟨ba_X6_isUse.1, ba_X6_isUse.2.1, nc_RX6⟩
theorem bv_X6_isUse : Cond.static yX6_isUse ∈ ec_tb := ba_X6_isUse.2.2.1
theorem bp_X6_isUse : (parseMethodDescriptor yX6_isUse.desc).map (fun d => d.parameters.length) = some 1 := by decide +kernel
theorem bj_X6_isUse (l : Launch) : ex_ok l 0 0 bx_X6_isUse := ec_okp fo_X6 co_X6 so_X6 (ec_okn)
theorem bm_X6_isUse (l : Launch) : ex_Met l yX6_isUse cX6_isUse 1 (some .boolean) 0 0 (ab_sp ab_hd bc_X6_isUse) := ab_met (by decide) pn_RX6 rfl (bj_X6_isUse l) bd_X6_isUse ab_hcm ab_xk bz_X6_isUse
theorem ba_X6_addMachine : ec_al [(559, Cond.code yX6_addMachine cX6_addMachine 6 (some .int)), (63, Cond.initialized yX6_addMachine.cls), (557, Cond.instanceMethod yX6_addMachine), (558, Cond.selects yX6_addMachine.cls yX6_addMachine yX6_addMachine), (560, Cond.methodLink RX6 67 yX6_isKind), (563, Cond.methodLink RX6 71 yX6_isUse)] := ec_alk (by decide +kernel)
theorem bw_X6_addMachine : ec_cw yX6_addMachine cX6_addMachine 6 (some .int) := ⟨ba_X6_addMachine.1, ba_X6_addMachine.2.1, nc_RX6⟩
theorem bv_X6_addMachine : Cond.instanceMethod yX6_addMachine ∈ ec_tb ∧ Cond.selects yX6_addMachine.cls yX6_addMachine yX6_addMachine ∈ ec_tb := ⟨ba_X6_addMachine.2.2.1, ba_X6_addMachine.2.2.2.1⟩
theorem bp_X6_addMachine : (parseMethodDescriptor yX6_addMachine.desc).map (fun d => d.parameters.length) = some 4 := by decide +kernel
theorem bk_X6_addMachine (l : Launch) : ∀ (ix n : Nat) (rc : Option Nat) (sp : ex_S), (be_X6_addMachine ix).map (fun q => (q.1, q.2.1, ab_sp ab_hd q.2.2)) = some (n, rc, sp) → ex_cok l RX6 1 20 ix n rc sp := by
  intro ix n rc sp h
  obtain ⟨l0, h2, rfl⟩ := ab_dmk h
  clear h
  unfold be_X6_addMachine at h2
  split at h2
  · cases h2; exact ec_cS (bm_X6_isKind l) bw_X6_isKind bv_X6_isKind (by decide) (by decide) (Or.inl ba_X6_addMachine.2.2.2.2.1) bp_X6_isKind
  · cases h2; exact ec_cS (bm_X6_isUse l) bw_X6_isUse bv_X6_isUse (by decide) (by decide) (Or.inl ba_X6_addMachine.2.2.2.2.2.1) bp_X6_isUse
  · cases h2
theorem bj_X6_addMachine (l : Launch) : ex_ok l 1 20 bx_X6_addMachine := ec_okp fo_X6 co_X6 so_X6 (bk_X6_addMachine l)
theorem bm_X6_addMachine (l : Launch) : ex_Met l yX6_addMachine cX6_addMachine 6 (some .int) 1 20 (ab_sp ab_hd bc_X6_addMachine) := ab_met (by decide) pn_RX6 rfl (bj_X6_addMachine l) bd_X6_addMachine ab_hcm ab_xk bz_X6_addMachine
theorem ba_X6_isUnder : ec_al [(583, Cond.code yX6_isUnder cX6_isUnder 4 (some .boolean)), (63, Cond.initialized yX6_isUnder.cls), (582, Cond.static yX6_isUnder), (560, Cond.methodLink RX6 67 yX6_isKind)] := ec_alk (by decide +kernel)
theorem bw_X6_isUnder : ec_cw yX6_isUnder cX6_isUnder 4 (some .boolean) := ⟨ba_X6_isUnder.1, ba_X6_isUnder.2.1, nc_RX6⟩
theorem bv_X6_isUnder : Cond.static yX6_isUnder ∈ ec_tb := ba_X6_isUnder.2.2.1
theorem bp_X6_isUnder : (parseMethodDescriptor yX6_isUnder.desc).map (fun d => d.parameters.length) = some 2 := by decide +kernel
theorem bk_X6_isUnder (l : Launch) : ∀ (ix n : Nat) (rc : Option Nat) (sp : ex_S), (be_X6_isUnder ix).map (fun q => (q.1, q.2.1, ab_sp ab_hd q.2.2)) = some (n, rc, sp) → ex_cok l RX6 1 20 ix n rc sp := by
  intro ix n rc sp h
  obtain ⟨l0, h2, rfl⟩ := ab_dmk h
  clear h
  unfold be_X6_isUnder at h2
  split at h2
  · cases h2; exact ec_cS (bm_X6_isKind l) bw_X6_isKind bv_X6_isKind (by decide) (by decide) (Or.inl ba_X6_isUnder.2.2.2.1) bp_X6_isKind
  · cases h2
theorem bj_X6_isUnder (l : Launch) : ex_ok l 1 20 bx_X6_isUnder := ec_okp fo_X6 co_X6 so_X6 (bk_X6_isUnder l)
theorem bm_X6_isUnder (l : Launch) : ex_Met l yX6_isUnder cX6_isUnder 4 (some .boolean) 1 20 (ab_sp ab_hd bc_X6_isUnder) := ab_met (by decide) pn_RX6 rfl (bj_X6_isUnder l) bd_X6_isUnder ab_hcm ab_xk bz_X6_isUnder
theorem ba_X6_rateAs : ec_al [(576, Cond.code yX6_rateAs cX6_rateAs 3 (some .int)), (63, Cond.initialized yX6_rateAs.cls), (574, Cond.instanceMethod yX6_rateAs), (575, Cond.selects yX6_rateAs.cls yX6_rateAs yX6_rateAs), (577, Cond.methodLink RX6 77 yX6_has), (560, Cond.methodLink RX6 67 yX6_isKind), (581, Cond.methodLink RX6 80 yX6_isUnder)] := ec_alk (by decide +kernel)
theorem bw_X6_rateAs : ec_cw yX6_rateAs cX6_rateAs 3 (some .int) := ⟨ba_X6_rateAs.1, ba_X6_rateAs.2.1, nc_RX6⟩
theorem bv_X6_rateAs : Cond.instanceMethod yX6_rateAs ∈ ec_tb ∧ Cond.selects yX6_rateAs.cls yX6_rateAs yX6_rateAs ∈ ec_tb := ⟨ba_X6_rateAs.2.2.1, ba_X6_rateAs.2.2.2.1⟩
theorem bp_X6_rateAs : (parseMethodDescriptor yX6_rateAs.desc).map (fun d => d.parameters.length) = some 2 := by decide +kernel
theorem bk_X6_rateAs (l : Launch) : ∀ (ix n : Nat) (rc : Option Nat) (sp : ex_S), (be_X6_rateAs ix).map (fun q => (q.1, q.2.1, ab_sp ab_hd q.2.2)) = some (n, rc, sp) → ex_cok l RX6 2 43 ix n rc sp := by
  intro ix n rc sp h
  obtain ⟨l0, h2, rfl⟩ := ab_dmk h
  clear h
  unfold be_X6_rateAs at h2
  split at h2
  · cases h2; exact ec_cV (bm_X6_has l) bw_X6_has bv_X6_has (by decide) (by decide) (Or.inl ba_X6_rateAs.2.2.2.2.1) (T := TX6) (N := 15) rfl (by decide) bp_X6_has
  · cases h2; exact ec_cS (bm_X6_isKind l) bw_X6_isKind bv_X6_isKind (by decide) (by decide) (Or.inl ba_X6_rateAs.2.2.2.2.2.1) bp_X6_isKind
  · cases h2; exact ec_cS (bm_X6_isUnder l) bw_X6_isUnder bv_X6_isUnder (by decide) (by decide) (Or.inl ba_X6_rateAs.2.2.2.2.2.2.1) bp_X6_isUnder
  · cases h2
theorem bj_X6_rateAs (l : Launch) : ex_ok l 2 43 bx_X6_rateAs := ec_okp fo_X6 co_X6 so_X6 (bk_X6_rateAs l)
theorem bm_X6_rateAs (l : Launch) : ex_Met l yX6_rateAs cX6_rateAs 3 (some .int) 2 43 (ab_sp ab_hd bc_X6_rateAs) := ab_met (by decide) pn_RX6 rfl (bj_X6_rateAs l) bd_X6_rateAs ab_hcm ab_xk bz_X6_rateAs
theorem ba_X6_setOn : ec_al [(594, Cond.code yX6_setOn cX6_setOn 4 (some .int)), (63, Cond.initialized yX6_setOn.cls), (592, Cond.instanceMethod yX6_setOn), (593, Cond.selects yX6_setOn.cls yX6_setOn yX6_setOn), (577, Cond.methodLink RX6 77 yX6_has)] := ec_alk (by decide +kernel)
theorem bw_X6_setOn : ec_cw yX6_setOn cX6_setOn 4 (some .int) := ⟨ba_X6_setOn.1, ba_X6_setOn.2.1, nc_RX6⟩
theorem bv_X6_setOn : Cond.instanceMethod yX6_setOn ∈ ec_tb ∧ Cond.selects yX6_setOn.cls yX6_setOn yX6_setOn ∈ ec_tb := ⟨ba_X6_setOn.2.2.1, ba_X6_setOn.2.2.2.1⟩
theorem bp_X6_setOn : (parseMethodDescriptor yX6_setOn.desc).map (fun d => d.parameters.length) = some 2 := by decide +kernel
theorem bk_X6_setOn (l : Launch) : ∀ (ix n : Nat) (rc : Option Nat) (sp : ex_S), (be_X6_setOn ix).map (fun q => (q.1, q.2.1, ab_sp ab_hd q.2.2)) = some (n, rc, sp) → ex_cok l RX6 1 21 ix n rc sp := by
  intro ix n rc sp h
  obtain ⟨l0, h2, rfl⟩ := ab_dmk h
  clear h
  unfold be_X6_setOn at h2
  split at h2
  · cases h2; exact ec_cV (bm_X6_has l) bw_X6_has bv_X6_has (by decide) (by decide) (Or.inl ba_X6_setOn.2.2.2.2.1) (T := TX6) (N := 15) rfl (by decide) bp_X6_has
  · cases h2; exact ec_cS (bm_X9_isSwitch l) bw_X9_isSwitch bv_X9_isSwitch (by decide) (by decide) (Or.inr ⟨"TinStation", List.mem_of_getElem? (i := 10) rfl⟩) bp_X9_isSwitch
  · cases h2; exact ec_cS (bm_X9_one l) bw_X9_one bv_X9_one (by decide) (by decide) (Or.inr ⟨"TinStation", List.mem_of_getElem? (i := 11) rfl⟩) bp_X9_one
  · cases h2
theorem bj_X6_setOn (l : Launch) : ex_ok l 1 21 bx_X6_setOn := ec_okp fo_X6 co_X6 so_X6 (bk_X6_setOn l)
theorem bm_X6_setOn (l : Launch) : ex_Met l yX6_setOn cX6_setOn 4 (some .int) 1 21 (ab_sp ab_hd bc_X6_setOn) := ab_met (by decide) pn_RX6 rfl (bj_X6_setOn l) bd_X6_setOn ab_hcm ab_xk bz_X6_setOn
theorem ba_X6_tellOf : ec_al [(604, Cond.code yX6_tellOf cX6_tellOf 3 (some .int)), (63, Cond.initialized yX6_tellOf.cls), (602, Cond.instanceMethod yX6_tellOf), (603, Cond.selects yX6_tellOf.cls yX6_tellOf yX6_tellOf), (577, Cond.methodLink RX6 77 yX6_has)] := ec_alk (by decide +kernel)
theorem bw_X6_tellOf : ec_cw yX6_tellOf cX6_tellOf 3 (some .int) := ⟨ba_X6_tellOf.1, ba_X6_tellOf.2.1, nc_RX6⟩
theorem bv_X6_tellOf : Cond.instanceMethod yX6_tellOf ∈ ec_tb ∧ Cond.selects yX6_tellOf.cls yX6_tellOf yX6_tellOf ∈ ec_tb := ⟨ba_X6_tellOf.2.2.1, ba_X6_tellOf.2.2.2.1⟩
theorem bp_X6_tellOf : (parseMethodDescriptor yX6_tellOf.desc).map (fun d => d.parameters.length) = some 2 := by decide +kernel
theorem bk_X6_tellOf (l : Launch) : ∀ (ix n : Nat) (rc : Option Nat) (sp : ex_S), (be_X6_tellOf ix).map (fun q => (q.1, q.2.1, ab_sp ab_hd q.2.2)) = some (n, rc, sp) → ex_cok l RX6 1 21 ix n rc sp := by
  intro ix n rc sp h
  obtain ⟨l0, h2, rfl⟩ := ab_dmk h
  clear h
  unfold be_X6_tellOf at h2
  split at h2
  · cases h2; exact ec_cV (bm_X6_has l) bw_X6_has bv_X6_has (by decide) (by decide) (Or.inl ba_X6_tellOf.2.2.2.2.1) (T := TX6) (N := 15) rfl (by decide) bp_X6_has
  · cases h2; exact ec_cS (bm_X9_one l) bw_X9_one bv_X9_one (by decide) (by decide) (Or.inr ⟨"TinStation", List.mem_of_getElem? (i := 11) rfl⟩) bp_X9_one
  · cases h2
theorem bj_X6_tellOf (l : Launch) : ex_ok l 1 21 bx_X6_tellOf := ec_okp fo_X6 co_X6 so_X6 (bk_X6_tellOf l)
theorem bm_X6_tellOf (l : Launch) : ex_Met l yX6_tellOf cX6_tellOf 3 (some .int) 1 21 (ab_sp ab_hd bc_X6_tellOf) := ab_met (by decide) pn_RX6 rfl (bj_X6_tellOf l) bd_X6_tellOf ab_hcm ab_xk bz_X6_tellOf
theorem ba_X6_setSpares : ec_al [(612, Cond.code yX6_setSpares cX6_setSpares 4 (some .int)), (63, Cond.initialized yX6_setSpares.cls), (610, Cond.instanceMethod yX6_setSpares), (611, Cond.selects yX6_setSpares.cls yX6_setSpares yX6_setSpares), (560, Cond.methodLink RX6 67 yX6_isKind)] := ec_alk (by decide +kernel)
theorem bw_X6_setSpares : ec_cw yX6_setSpares cX6_setSpares 4 (some .int) := ⟨ba_X6_setSpares.1, ba_X6_setSpares.2.1, nc_RX6⟩
theorem bv_X6_setSpares : Cond.instanceMethod yX6_setSpares ∈ ec_tb ∧ Cond.selects yX6_setSpares.cls yX6_setSpares yX6_setSpares ∈ ec_tb := ⟨ba_X6_setSpares.2.2.1, ba_X6_setSpares.2.2.2.1⟩
theorem bp_X6_setSpares : (parseMethodDescriptor yX6_setSpares.desc).map (fun d => d.parameters.length) = some 2 := by decide +kernel
theorem bk_X6_setSpares (l : Launch) : ∀ (ix n : Nat) (rc : Option Nat) (sp : ex_S), (be_X6_setSpares ix).map (fun q => (q.1, q.2.1, ab_sp ab_hd q.2.2)) = some (n, rc, sp) → ex_cok l RX6 1 20 ix n rc sp := by
  intro ix n rc sp h
  obtain ⟨l0, h2, rfl⟩ := ab_dmk h
  clear h
  unfold be_X6_setSpares at h2
  split at h2
  · cases h2; exact ec_cS (bm_X6_isKind l) bw_X6_isKind bv_X6_isKind (by decide) (by decide) (Or.inl ba_X6_setSpares.2.2.2.2.1) bp_X6_isKind
  · cases h2
theorem bj_X6_setSpares (l : Launch) : ex_ok l 1 20 bx_X6_setSpares := ec_okp fo_X6 co_X6 so_X6 (bk_X6_setSpares l)
theorem bm_X6_setSpares (l : Launch) : ex_Met l yX6_setSpares cX6_setSpares 4 (some .int) 1 20 (ab_sp ab_hd bc_X6_setSpares) := ab_met (by decide) pn_RX6 rfl (bj_X6_setSpares l) bd_X6_setSpares ab_hcm ab_xk bz_X6_setSpares
theorem ba_X6_setSun : ec_al [(668, Cond.code yX6_setSun cX6_setSun 3 (some .int)), (63, Cond.initialized yX6_setSun.cls), (666, Cond.instanceMethod yX6_setSun), (667, Cond.selects yX6_setSun.cls yX6_setSun yX6_setSun)] := ec_alk (by decide +kernel)
theorem bw_X6_setSun : ec_cw yX6_setSun cX6_setSun 3 (some .int) := ⟨ba_X6_setSun.1, ba_X6_setSun.2.1, nc_RX6⟩
theorem bv_X6_setSun : Cond.instanceMethod yX6_setSun ∈ ec_tb ∧ Cond.selects yX6_setSun.cls yX6_setSun yX6_setSun ∈ ec_tb := ⟨ba_X6_setSun.2.2.1, ba_X6_setSun.2.2.2.1⟩
theorem bp_X6_setSun : (parseMethodDescriptor yX6_setSun.desc).map (fun d => d.parameters.length) = some 2 := by decide +kernel
theorem bj_X6_setSun (l : Launch) : ex_ok l 1 21 bx_X6_setSun := ⟨ec_fok fo_X6, ec_cok co_X6, so_X6, ec_okn, am_X6 (by decide) (by decide), ax_X6, ao_X6, fun _ _ h => (by cases h)⟩
theorem bm_X6_setSun (l : Launch) : ex_Met l yX6_setSun cX6_setSun 3 (some .int) 1 21 (ab_sp ab_hd bc_X6_setSun) := ab_met (by decide) pn_RX6 rfl (bj_X6_setSun l) bd_X6_setSun ab_hcm ab_xk bz_X6_setSun
theorem ba_X6_setBattery : ec_al [(679, Cond.code yX6_setBattery cX6_setBattery 3 (some .int)), (63, Cond.initialized yX6_setBattery.cls), (677, Cond.instanceMethod yX6_setBattery), (678, Cond.selects yX6_setBattery.cls yX6_setBattery yX6_setBattery)] := ec_alk (by decide +kernel)
theorem bw_X6_setBattery : ec_cw yX6_setBattery cX6_setBattery 3 (some .int) := ⟨ba_X6_setBattery.1, ba_X6_setBattery.2.1, nc_RX6⟩
theorem bv_X6_setBattery : Cond.instanceMethod yX6_setBattery ∈ ec_tb ∧ Cond.selects yX6_setBattery.cls yX6_setBattery yX6_setBattery ∈ ec_tb := ⟨ba_X6_setBattery.2.2.1, ba_X6_setBattery.2.2.2.1⟩
theorem bp_X6_setBattery : (parseMethodDescriptor yX6_setBattery.desc).map (fun d => d.parameters.length) = some 1 := by decide +kernel
theorem bj_X6_setBattery (l : Launch) : ex_ok l 0 0 bx_X6_setBattery := ec_okp fo_X6 co_X6 so_X6 (ec_okn)
theorem bm_X6_setBattery (l : Launch) : ex_Met l yX6_setBattery cX6_setBattery 3 (some .int) 0 0 (ab_sp ab_hd bc_X6_setBattery) := ab_met (by decide) pn_RX6 rfl (bj_X6_setBattery l) bd_X6_setBattery ab_hcm ab_xk bz_X6_setBattery
theorem ba_X6_isReady : ec_al [(650, Cond.code yX6_isReady cX6_isReady 2 (some .boolean)), (63, Cond.initialized yX6_isReady.cls), (649, Cond.instanceMethod yX6_isReady), (3, Cond.selects yX6_isReady.cls yX6_isReady yX6_isReady)] := ec_alk (by decide +kernel)
theorem bw_X6_isReady : ec_cw yX6_isReady cX6_isReady 2 (some .boolean) := ⟨ba_X6_isReady.1, ba_X6_isReady.2.1, nc_RX6⟩
theorem bv_X6_isReady : Cond.instanceMethod yX6_isReady ∈ ec_tb ∧ Cond.selects yX6_isReady.cls yX6_isReady yX6_isReady ∈ ec_tb := ⟨ba_X6_isReady.2.2.1, ba_X6_isReady.2.2.2.1⟩
theorem bp_X6_isReady : (parseMethodDescriptor yX6_isReady.desc).map (fun d => d.parameters.length) = some 1 := by decide +kernel
theorem bj_X6_isReady (l : Launch) : ex_ok l 0 0 bx_X6_isReady := ec_okp fo_X6 co_X6 so_X6 (ec_okn)
theorem bm_X6_isReady (l : Launch) : ex_Met l yX6_isReady cX6_isReady 2 (some .boolean) 0 0 (ab_sp ab_hd bc_X6_isReady) := ab_met (by decide) pn_RX6 rfl (bj_X6_isReady l) bd_X6_isReady ab_hcm ab_xk bz_X6_isReady
theorem ba_X6_sharePower : ec_al [(764, Cond.code yX6_sharePower cX6_sharePower 5 none), (63, Cond.initialized yX6_sharePower.cls), (762, Cond.instanceMethod yX6_sharePower), (763, Cond.selects yX6_sharePower.cls yX6_sharePower yX6_sharePower), (647, Cond.methodLink RX6 101 yX6_isReady)] := ec_alk (by decide +kernel)
theorem bw_X6_sharePower : ec_cw yX6_sharePower cX6_sharePower 5 none := ⟨ba_X6_sharePower.1, ba_X6_sharePower.2.1, nc_RX6⟩
theorem bv_X6_sharePower : Cond.instanceMethod yX6_sharePower ∈ ec_tb ∧ Cond.selects yX6_sharePower.cls yX6_sharePower yX6_sharePower ∈ ec_tb := ⟨ba_X6_sharePower.2.2.1, ba_X6_sharePower.2.2.2.1⟩
theorem bp_X6_sharePower : (parseMethodDescriptor yX6_sharePower.desc).map (fun d => d.parameters.length) = some 1 := by decide +kernel
theorem bk_X6_sharePower (l : Launch) : ∀ (ix n : Nat) (rc : Option Nat) (sp : ex_S), (be_X6_sharePower ix).map (fun q => (q.1, q.2.1, ab_sp ab_hd q.2.2)) = some (n, rc, sp) → ex_cok l RX6 1 21 ix n rc sp := by
  intro ix n rc sp h
  obtain ⟨l0, h2, rfl⟩ := ab_dmk h
  clear h
  unfold be_X6_sharePower at h2
  split at h2
  · cases h2; exact ec_cV (bm_X6_isReady l) bw_X6_isReady bv_X6_isReady (by decide) (by decide) (Or.inl ba_X6_sharePower.2.2.2.2.1) (T := TX6) (N := 15) rfl (by decide) bp_X6_isReady
  · cases h2
theorem bj_X6_sharePower (l : Launch) : ex_ok l 1 21 bx_X6_sharePower := ⟨ec_fok fo_X6, ec_cok co_X6, so_X6, bk_X6_sharePower l, am_X6 (by decide) (by decide), ax_X6, ao_X6, fun _ _ h => (by cases h)⟩
theorem bm_X6_sharePower (l : Launch) : ex_Met l yX6_sharePower cX6_sharePower 5 none 1 21 (ab_sp ab_hd bc_X6_sharePower) := ab_met (by decide) pn_RX6 rfl (bj_X6_sharePower l) bd_X6_sharePower ab_hcm ab_xk bz_X6_sharePower
theorem ba_X6_split : ec_al [(785, Cond.code yX6_split cX6_split 5 none), (63, Cond.initialized yX6_split.cls), (784, Cond.instanceMethod yX6_split), (12, Cond.selects yX6_split.cls yX6_split yX6_split), (786, Cond.methodLink RX6 128 yX0_draw), (790, Cond.methodLink RX6 108 yX0_give), (778, Cond.methodLink RX6 118 yX0_fill)] := ec_alk (by decide +kernel)
theorem bw_X6_split : ec_cw yX6_split cX6_split 5 none := ⟨ba_X6_split.1, ba_X6_split.2.1, nc_RX6⟩
theorem bv_X6_split : Cond.instanceMethod yX6_split ∈ ec_tb ∧ Cond.selects yX6_split.cls yX6_split yX6_split ∈ ec_tb := ⟨ba_X6_split.2.2.1, ba_X6_split.2.2.2.1⟩
theorem bp_X6_split : (parseMethodDescriptor yX6_split.desc).map (fun d => d.parameters.length) = some 2 := by decide +kernel
theorem bk_X6_split (l : Launch) : ∀ (ix n : Nat) (rc : Option Nat) (sp : ex_S), (be_X6_split ix).map (fun q => (q.1, q.2.1, ab_sp ab_hd q.2.2)) = some (n, rc, sp) → ex_cok l RX6 2 44 ix n rc sp := by
  intro ix n rc sp h
  obtain ⟨l0, h2, rfl⟩ := ab_dmk h
  clear h
  unfold be_X6_split at h2
  split at h2
  · cases h2; exact ec_cV (bm_X0_draw l) bw_X0_draw bv_X0_draw (by decide) (by decide) (Or.inl ba_X6_split.2.2.2.2.1) (T := TX0) (N := 8) rfl (by decide) bp_X0_draw
  · cases h2; exact ec_cV (bm_X0_give l) bw_X0_give bv_X0_give (by decide) (by decide) (Or.inl ba_X6_split.2.2.2.2.2.1) (T := TX0) (N := 8) rfl (by decide) bp_X0_give
  · cases h2; exact ec_cV (bm_X0_fill l) bw_X0_fill bv_X0_fill (by decide) (by decide) (Or.inl ba_X6_split.2.2.2.2.2.2.1) (T := TX0) (N := 8) rfl (by decide) bp_X0_fill
  · cases h2
theorem bj_X6_split (l : Launch) : ex_ok l 2 44 bx_X6_split := ec_okp fo_X6 co_X6 so_X6 (bk_X6_split l)
theorem bm_X6_split (l : Launch) : ex_Met l yX6_split cX6_split 5 none 2 44 (ab_sp ab_hd bc_X6_split) := ab_met (by decide) pn_RX6 rfl (bj_X6_split l) bd_X6_split ab_hcm ab_xk bz_X6_split
theorem ba_X6_distil : ec_al [(797, Cond.code yX6_distil cX6_distil 5 none), (63, Cond.initialized yX6_distil.cls), (796, Cond.instanceMethod yX6_distil), (13, Cond.selects yX6_distil.cls yX6_distil yX6_distil), (786, Cond.methodLink RX6 128 yX0_draw), (778, Cond.methodLink RX6 118 yX0_fill)] := ec_alk (by decide +kernel)
theorem bw_X6_distil : ec_cw yX6_distil cX6_distil 5 none := ⟨ba_X6_distil.1, ba_X6_distil.2.1, nc_RX6⟩
theorem bv_X6_distil : Cond.instanceMethod yX6_distil ∈ ec_tb ∧ Cond.selects yX6_distil.cls yX6_distil yX6_distil ∈ ec_tb := ⟨ba_X6_distil.2.2.1, ba_X6_distil.2.2.2.1⟩
theorem bp_X6_distil : (parseMethodDescriptor yX6_distil.desc).map (fun d => d.parameters.length) = some 2 := by decide +kernel
theorem bk_X6_distil (l : Launch) : ∀ (ix n : Nat) (rc : Option Nat) (sp : ex_S), (be_X6_distil ix).map (fun q => (q.1, q.2.1, ab_sp ab_hd q.2.2)) = some (n, rc, sp) → ex_cok l RX6 2 44 ix n rc sp := by
  intro ix n rc sp h
  obtain ⟨l0, h2, rfl⟩ := ab_dmk h
  clear h
  unfold be_X6_distil at h2
  split at h2
  · cases h2; exact ec_cV (bm_X0_draw l) bw_X0_draw bv_X0_draw (by decide) (by decide) (Or.inl ba_X6_distil.2.2.2.2.1) (T := TX0) (N := 8) rfl (by decide) bp_X0_draw
  · cases h2; exact ec_cV (bm_X0_fill l) bw_X0_fill bv_X0_fill (by decide) (by decide) (Or.inl ba_X6_distil.2.2.2.2.2.1) (T := TX0) (N := 8) rfl (by decide) bp_X0_fill
  · cases h2
theorem bj_X6_distil (l : Launch) : ex_ok l 2 44 bx_X6_distil := ec_okp fo_X6 co_X6 so_X6 (bk_X6_distil l)
theorem bm_X6_distil (l : Launch) : ex_Met l yX6_distil cX6_distil 5 none 2 44 (ab_sp ab_hd bc_X6_distil) := ab_met (by decide) pn_RX6 rfl (bj_X6_distil l) bd_X6_distil ab_hcm ab_xk bz_X6_distil
theorem ba_X6_work : ec_al [(772, Cond.code yX6_work cX6_work 3 none), (63, Cond.initialized yX6_work.cls), (771, Cond.instanceMethod yX6_work), (11, Cond.selects yX6_work.cls yX6_work yX6_work), (773, Cond.methodLink RX6 114 yX0_take), (778, Cond.methodLink RX6 118 yX0_fill), (782, Cond.methodLink RX6 122 yX6_split), (794, Cond.methodLink RX6 125 yX6_distil)] := ec_alk (by decide +kernel)
theorem bw_X6_work : ec_cw yX6_work cX6_work 3 none := ⟨ba_X6_work.1, ba_X6_work.2.1, nc_RX6⟩
theorem bv_X6_work : Cond.instanceMethod yX6_work ∈ ec_tb ∧ Cond.selects yX6_work.cls yX6_work yX6_work ∈ ec_tb := ⟨ba_X6_work.2.2.1, ba_X6_work.2.2.2.1⟩
theorem bp_X6_work : (parseMethodDescriptor yX6_work.desc).map (fun d => d.parameters.length) = some 2 := by decide +kernel
theorem bk_X6_work (l : Launch) : ∀ (ix n : Nat) (rc : Option Nat) (sp : ex_S), (be_X6_work ix).map (fun q => (q.1, q.2.1, ab_sp ab_hd q.2.2)) = some (n, rc, sp) → ex_cok l RX6 3 68 ix n rc sp := by
  intro ix n rc sp h
  obtain ⟨l0, h2, rfl⟩ := ab_dmk h
  clear h
  unfold be_X6_work at h2
  split at h2
  · cases h2; exact ec_cV (bm_X0_take l) bw_X0_take bv_X0_take (by decide) (by decide) (Or.inl ba_X6_work.2.2.2.2.1) (T := TX0) (N := 8) rfl (by decide) bp_X0_take
  · cases h2; exact ec_cV (bm_X0_fill l) bw_X0_fill bv_X0_fill (by decide) (by decide) (Or.inl ba_X6_work.2.2.2.2.2.1) (T := TX0) (N := 8) rfl (by decide) bp_X0_fill
  · cases h2; exact ec_cV (bm_X6_split l) bw_X6_split bv_X6_split (by decide) (by decide) (Or.inl ba_X6_work.2.2.2.2.2.2.1) (T := TX6) (N := 15) rfl (by decide) bp_X6_split
  · cases h2; exact ec_cV (bm_X6_distil l) bw_X6_distil bv_X6_distil (by decide) (by decide) (Or.inl ba_X6_work.2.2.2.2.2.2.2.1) (T := TX6) (N := 15) rfl (by decide) bp_X6_distil
  · cases h2
theorem bj_X6_work (l : Launch) : ex_ok l 3 68 bx_X6_work := ec_okp fo_X6 co_X6 so_X6 (bk_X6_work l)
theorem bm_X6_work (l : Launch) : ex_Met l yX6_work cX6_work 3 none 3 68 (ab_sp ab_hd bc_X6_work) := ab_met (by decide) pn_RX6 rfl (bj_X6_work l) bd_X6_work ab_hcm ab_xk bz_X6_work
theorem ba_X6_workAll : ec_al [(768, Cond.code yX6_workAll cX6_workAll 3 none), (63, Cond.initialized yX6_workAll.cls), (766, Cond.instanceMethod yX6_workAll), (767, Cond.selects yX6_workAll.cls yX6_workAll yX6_workAll), (769, Cond.methodLink RX6 104 yX6_work), (790, Cond.methodLink RX6 108 yX0_give)] := ec_alk (by decide +kernel)
theorem bw_X6_workAll : ec_cw yX6_workAll cX6_workAll 3 none := ⟨ba_X6_workAll.1, ba_X6_workAll.2.1, nc_RX6⟩
theorem bv_X6_workAll : Cond.instanceMethod yX6_workAll ∈ ec_tb ∧ Cond.selects yX6_workAll.cls yX6_workAll yX6_workAll ∈ ec_tb := ⟨ba_X6_workAll.2.2.1, ba_X6_workAll.2.2.2.1⟩
theorem bp_X6_workAll : (parseMethodDescriptor yX6_workAll.desc).map (fun d => d.parameters.length) = some 1 := by decide +kernel
theorem bk_X6_workAll (l : Launch) : ∀ (ix n : Nat) (rc : Option Nat) (sp : ex_S), (be_X6_workAll ix).map (fun q => (q.1, q.2.1, ab_sp ab_hd q.2.2)) = some (n, rc, sp) → ex_cok l RX6 4 90 ix n rc sp := by
  intro ix n rc sp h
  obtain ⟨l0, h2, rfl⟩ := ab_dmk h
  clear h
  unfold be_X6_workAll at h2
  split at h2
  · cases h2; exact ec_cV (bm_X6_work l) bw_X6_work bv_X6_work (by decide) (by decide) (Or.inl ba_X6_workAll.2.2.2.2.1) (T := TX6) (N := 15) rfl (by decide) bp_X6_work
  · cases h2; exact ec_cV (bm_X0_give l) bw_X0_give bv_X0_give (by decide) (by decide) (Or.inl ba_X6_workAll.2.2.2.2.2.1) (T := TX0) (N := 8) rfl (by decide) bp_X0_give
  · cases h2
theorem bj_X6_workAll (l : Launch) : ex_ok l 4 90 bx_X6_workAll := ec_okp fo_X6 co_X6 so_X6 (bk_X6_workAll l)
theorem bm_X6_workAll (l : Launch) : ex_Met l yX6_workAll cX6_workAll 3 none 4 90 (ab_sp ab_hd bc_X6_workAll) := ab_met (by decide) pn_RX6 rfl (bj_X6_workAll l) bd_X6_workAll ab_hcm ab_xk bz_X6_workAll
theorem ba_X6_readySet : ec_al [(646, Cond.code yX6_readySet cX6_readySet 3 (some .int)), (63, Cond.initialized yX6_readySet.cls), (645, Cond.instanceMethod yX6_readySet), (2, Cond.selects yX6_readySet.cls yX6_readySet yX6_readySet), (647, Cond.methodLink RX6 101 yX6_isReady)] := ec_alk (by decide +kernel)
theorem bw_X6_readySet : ec_cw yX6_readySet cX6_readySet 3 (some .int) := ⟨ba_X6_readySet.1, ba_X6_readySet.2.1, nc_RX6⟩
theorem bv_X6_readySet : Cond.instanceMethod yX6_readySet ∈ ec_tb ∧ Cond.selects yX6_readySet.cls yX6_readySet yX6_readySet ∈ ec_tb := ⟨ba_X6_readySet.2.2.1, ba_X6_readySet.2.2.2.1⟩
theorem bp_X6_readySet : (parseMethodDescriptor yX6_readySet.desc).map (fun d => d.parameters.length) = some 0 := by decide +kernel
theorem bk_X6_readySet (l : Launch) : ∀ (ix n : Nat) (rc : Option Nat) (sp : ex_S), (be_X6_readySet ix).map (fun q => (q.1, q.2.1, ab_sp ab_hd q.2.2)) = some (n, rc, sp) → ex_cok l RX6 1 21 ix n rc sp := by
  intro ix n rc sp h
  obtain ⟨l0, h2, rfl⟩ := ab_dmk h
  clear h
  unfold be_X6_readySet at h2
  split at h2
  · cases h2; exact ec_cV (bm_X6_isReady l) bw_X6_isReady bv_X6_isReady (by decide) (by decide) (Or.inl ba_X6_readySet.2.2.2.2.1) (T := TX6) (N := 15) rfl (by decide) bp_X6_isReady
  · cases h2
theorem bj_X6_readySet (l : Launch) : ex_ok l 1 21 bx_X6_readySet := ec_okp fo_X6 co_X6 so_X6 (bk_X6_readySet l)
theorem bm_X6_readySet (l : Launch) : ex_Met l yX6_readySet cX6_readySet 3 (some .int) 1 21 (ab_sp ab_hd bc_X6_readySet) := ab_met (by decide) pn_RX6 rfl (bj_X6_readySet l) bd_X6_readySet ab_hcm ab_xk bz_X6_readySet
theorem ba_X6_sumOver : ec_al [(654, Cond.code yX6_sumOver cX6_sumOver 5 (some .int)), (63, Cond.initialized yX6_sumOver.cls), (653, Cond.instanceMethod yX6_sumOver), (4, Cond.selects yX6_sumOver.cls yX6_sumOver yX6_sumOver)] := ec_alk (by decide +kernel)
theorem bw_X6_sumOver : ec_cw yX6_sumOver cX6_sumOver 5 (some .int) := ⟨ba_X6_sumOver.1, ba_X6_sumOver.2.1, nc_RX6⟩
theorem bv_X6_sumOver : Cond.instanceMethod yX6_sumOver ∈ ec_tb ∧ Cond.selects yX6_sumOver.cls yX6_sumOver yX6_sumOver ∈ ec_tb := ⟨ba_X6_sumOver.2.2.1, ba_X6_sumOver.2.2.2.1⟩
theorem bp_X6_sumOver : (parseMethodDescriptor yX6_sumOver.desc).map (fun d => d.parameters.length) = some 2 := by decide +kernel
theorem bj_X6_sumOver (l : Launch) : ex_ok l 0 0 bx_X6_sumOver := ec_okp fo_X6 co_X6 so_X6 (ec_okn)
theorem bm_X6_sumOver (l : Launch) : ex_Met l yX6_sumOver cX6_sumOver 5 (some .int) 0 0 (ab_sp ab_hd bc_X6_sumOver) := ab_met (by decide) pn_RX6 rfl (bj_X6_sumOver l) bd_X6_sumOver ab_hcm ab_xk bz_X6_sumOver
theorem ba_X6_leastHarm : ec_al [(642, Cond.code yX6_leastHarm cX6_leastHarm 8 (some .int)), (63, Cond.initialized yX6_leastHarm.cls), (641, Cond.instanceMethod yX6_leastHarm), (1, Cond.selects yX6_leastHarm.cls yX6_leastHarm yX6_leastHarm), (643, Cond.methodLink RX6 139 yX6_readySet), (651, Cond.methodLink RX6 135 yX6_sumOver), (655, Cond.methodLink RX6 143 yJ6_bitCount_0f7a4)] := ec_alk (by decide +kernel)
theorem bw_X6_leastHarm : ec_cw yX6_leastHarm cX6_leastHarm 8 (some .int) := ⟨ba_X6_leastHarm.1, ba_X6_leastHarm.2.1, nc_RX6⟩
theorem bv_X6_leastHarm : Cond.instanceMethod yX6_leastHarm ∈ ec_tb ∧ Cond.selects yX6_leastHarm.cls yX6_leastHarm yX6_leastHarm ∈ ec_tb := ⟨ba_X6_leastHarm.2.2.1, ba_X6_leastHarm.2.2.2.1⟩
theorem bp_X6_leastHarm : (parseMethodDescriptor yX6_leastHarm.desc).map (fun d => d.parameters.length) = some 1 := by decide +kernel
theorem bk_X6_leastHarm (l : Launch) : ∀ (ix n : Nat) (rc : Option Nat) (sp : ex_S), (be_X6_leastHarm ix).map (fun q => (q.1, q.2.1, ab_sp ab_hd q.2.2)) = some (n, rc, sp) → ex_cok l RX6 2 43 ix n rc sp := by
  intro ix n rc sp h
  obtain ⟨l0, h2, rfl⟩ := ab_dmk h
  clear h
  unfold be_X6_leastHarm at h2
  split at h2
  · cases h2; exact ec_cV (bm_X6_readySet l) bw_X6_readySet bv_X6_readySet (by decide) (by decide) (Or.inl ba_X6_leastHarm.2.2.2.2.1) (T := TX6) (N := 15) rfl (by decide) bp_X6_readySet
  · cases h2; exact ec_cV (bm_X6_sumOver l) bw_X6_sumOver bv_X6_sumOver (by decide) (by decide) (Or.inl ba_X6_leastHarm.2.2.2.2.2.1) (T := TX6) (N := 15) rfl (by decide) bp_X6_sumOver
  · cases h2; exact ec_cS (bm_J6_bitCount_0f7a4 l) bw_J6_bitCount_0f7a4 bv_J6_bitCount_0f7a4 (by decide) (by decide) (Or.inl ba_X6_leastHarm.2.2.2.2.2.2.1) bp_J6_bitCount_0f7a4
  · cases h2
theorem bj_X6_leastHarm (l : Launch) : ex_ok l 2 43 bx_X6_leastHarm := ec_okp fo_X6 co_X6 so_X6 (bk_X6_leastHarm l)
theorem bm_X6_leastHarm (l : Launch) : ex_Met l yX6_leastHarm cX6_leastHarm 8 (some .int) 2 43 (ab_sp ab_hd bc_X6_leastHarm) := ab_met (by decide) pn_RX6 rfl (bj_X6_leastHarm l) bd_X6_leastHarm ab_hcm ab_xk bz_X6_leastHarm
theorem ba_X6_shedding : ec_al [(638, Cond.code yX6_shedding cX6_shedding 3 (some .int)), (63, Cond.initialized yX6_shedding.cls), (636, Cond.instanceMethod yX6_shedding), (637, Cond.selects yX6_shedding.cls yX6_shedding yX6_shedding), (639, Cond.methodLink RX6 131 yX6_leastHarm), (651, Cond.methodLink RX6 135 yX6_sumOver), (643, Cond.methodLink RX6 139 yX6_readySet)] := ec_alk (by decide +kernel)
theorem bw_X6_shedding : ec_cw yX6_shedding cX6_shedding 3 (some .int) := ⟨ba_X6_shedding.1, ba_X6_shedding.2.1, nc_RX6⟩
theorem bv_X6_shedding : Cond.instanceMethod yX6_shedding ∈ ec_tb ∧ Cond.selects yX6_shedding.cls yX6_shedding yX6_shedding ∈ ec_tb := ⟨ba_X6_shedding.2.2.1, ba_X6_shedding.2.2.2.1⟩
theorem bp_X6_shedding : (parseMethodDescriptor yX6_shedding.desc).map (fun d => d.parameters.length) = some 2 := by decide +kernel
theorem bk_X6_shedding (l : Launch) : ∀ (ix n : Nat) (rc : Option Nat) (sp : ex_S), (be_X6_shedding ix).map (fun q => (q.1, q.2.1, ab_sp ab_hd q.2.2)) = some (n, rc, sp) → ex_cok l RX6 3 70 ix n rc sp := by
  intro ix n rc sp h
  obtain ⟨l0, h2, rfl⟩ := ab_dmk h
  clear h
  unfold be_X6_shedding at h2
  split at h2
  · cases h2; exact ec_cV (bm_X6_leastHarm l) bw_X6_leastHarm bv_X6_leastHarm (by decide) (by decide) (Or.inl ba_X6_shedding.2.2.2.2.1) (T := TX6) (N := 15) rfl (by decide) bp_X6_leastHarm
  · cases h2; exact ec_cV (bm_X6_sumOver l) bw_X6_sumOver bv_X6_sumOver (by decide) (by decide) (Or.inl ba_X6_shedding.2.2.2.2.2.1) (T := TX6) (N := 15) rfl (by decide) bp_X6_sumOver
  · cases h2; exact ec_cV (bm_X6_readySet l) bw_X6_readySet bv_X6_readySet (by decide) (by decide) (Or.inl ba_X6_shedding.2.2.2.2.2.2.1) (T := TX6) (N := 15) rfl (by decide) bp_X6_readySet
  · cases h2
theorem bj_X6_shedding (l : Launch) : ex_ok l 3 70 bx_X6_shedding := ec_okp fo_X6 co_X6 so_X6 (bk_X6_shedding l)
theorem bm_X6_shedding (l : Launch) : ex_Met l yX6_shedding cX6_shedding 3 (some .int) 3 70 (ab_sp ab_hd bc_X6_shedding) := ab_met (by decide) pn_RX6 rfl (bj_X6_shedding l) bd_X6_shedding ab_hcm ab_xk bz_X6_shedding
theorem ba_X7_has : ec_al [(709, Cond.code yX7_has cX7_has 2 (some .boolean)), (59, Cond.initialized yX7_has.cls), (707, Cond.instanceMethod yX7_has), (708, Cond.selects yX7_has.cls yX7_has yX7_has)] := ec_alk (by decide +kernel)
theorem bw_X7_has : ec_cw yX7_has cX7_has 2 (some .boolean) := ⟨ba_X7_has.1, ba_X7_has.2.1, nc_RX7⟩
theorem bv_X7_has : Cond.instanceMethod yX7_has ∈ ec_tb ∧ Cond.selects yX7_has.cls yX7_has yX7_has ∈ ec_tb := ⟨ba_X7_has.2.2.1, ba_X7_has.2.2.2.1⟩
theorem bp_X7_has : (parseMethodDescriptor yX7_has.desc).map (fun d => d.parameters.length) = some 1 := by decide +kernel
theorem bj_X7_has (l : Launch) : ex_ok l 0 0 bx_X7_has := ec_okp fo_X7 co_X7 so_X7 (ec_okn)
theorem bm_X7_has (l : Launch) : ex_Met l yX7_has cX7_has 2 (some .boolean) 0 0 (ab_sp ab_hd bc_X7_has) := ab_met (by decide) pn_RX7 rfl (bj_X7_has l) bd_X7_has ab_hcm ab_xk bz_X7_has
theorem ba_X7_addLine : ec_al [(909, Cond.code yX7_addLine cX7_addLine 5 (some .int)), (59, Cond.initialized yX7_addLine.cls), (907, Cond.instanceMethod yX7_addLine), (908, Cond.selects yX7_addLine.cls yX7_addLine yX7_addLine)] := ec_alk (by decide +kernel)
theorem bw_X7_addLine : ec_cw yX7_addLine cX7_addLine 5 (some .int) := ⟨ba_X7_addLine.1, ba_X7_addLine.2.1, nc_RX7⟩
theorem bv_X7_addLine : Cond.instanceMethod yX7_addLine ∈ ec_tb ∧ Cond.selects yX7_addLine.cls yX7_addLine yX7_addLine ∈ ec_tb := ⟨ba_X7_addLine.2.2.1, ba_X7_addLine.2.2.2.1⟩
theorem bp_X7_addLine : (parseMethodDescriptor yX7_addLine.desc).map (fun d => d.parameters.length) = some 4 := by decide +kernel
theorem bj_X7_addLine (l : Launch) : ex_ok l 0 0 bx_X7_addLine := ec_okp fo_X7 co_X7 so_X7 (ec_okn)
theorem bm_X7_addLine (l : Launch) : ex_Met l yX7_addLine cX7_addLine 5 (some .int) 0 0 (ab_sp ab_hd bc_X7_addLine) := ab_met (by decide) pn_RX7 rfl (bj_X7_addLine l) bd_X7_addLine ab_hcm ab_xk bz_X7_addLine
theorem ba_X8_becomeLike : ec_al [(867, Cond.code yX8_becomeLike cX8_becomeLike 2 none), (60, Cond.initialized yX8_becomeLike.cls), (865, Cond.instanceMethod yX8_becomeLike), (866, Cond.selects yX8_becomeLike.cls yX8_becomeLike yX8_becomeLike), (868, Cond.methodLink RX8 50 yX0_becomeLike), (882, Cond.methodLink RX8 54 yX3_becomeLike), (887, Cond.methodLink RX8 57 yX6_becomeLike), (893, Cond.methodLink RX8 60 yX1_becomeLike), (897, Cond.methodLink RX8 63 yX2_becomeLike)] := ec_alk (by decide +kernel)
theorem bw_X8_becomeLike : ec_cw yX8_becomeLike cX8_becomeLike 2 none := ⟨ba_X8_becomeLike.1, ba_X8_becomeLike.2.1, nc_RX8⟩
theorem bv_X8_becomeLike : Cond.instanceMethod yX8_becomeLike ∈ ec_tb ∧ Cond.selects yX8_becomeLike.cls yX8_becomeLike yX8_becomeLike ∈ ec_tb := ⟨ba_X8_becomeLike.2.2.1, ba_X8_becomeLike.2.2.2.1⟩
theorem bp_X8_becomeLike : (parseMethodDescriptor yX8_becomeLike.desc).map (fun d => d.parameters.length) = some 1 := by decide +kernel
theorem bk_X8_becomeLike (l : Launch) : ∀ (ix n : Nat) (rc : Option Nat) (sp : ex_S), (be_X8_becomeLike ix).map (fun q => (q.1, q.2.1, ab_sp ab_hd q.2.2)) = some (n, rc, sp) → ex_cok l RX8 3 68 ix n rc sp := by
  intro ix n rc sp h
  obtain ⟨l0, h2, rfl⟩ := ab_dmk h
  clear h
  unfold be_X8_becomeLike at h2
  split at h2
  · cases h2; exact ec_cV (bm_X0_becomeLike l) bw_X0_becomeLike bv_X0_becomeLike (by decide) (by decide) (Or.inl ba_X8_becomeLike.2.2.2.2.1) (T := TX0) (N := 8) rfl (by decide) bp_X0_becomeLike
  · cases h2; exact ec_cV (bm_X3_becomeLike l) bw_X3_becomeLike bv_X3_becomeLike (by decide) (by decide) (Or.inl ba_X8_becomeLike.2.2.2.2.2.1) (T := TX3) (N := 7) rfl (by decide) bp_X3_becomeLike
  · cases h2; exact ec_cV (bm_X6_becomeLike l) bw_X6_becomeLike bv_X6_becomeLike (by decide) (by decide) (Or.inl ba_X8_becomeLike.2.2.2.2.2.2.1) (T := TX6) (N := 15) rfl (by decide) bp_X6_becomeLike
  · cases h2; exact ec_cV (bm_X1_becomeLike l) bw_X1_becomeLike bv_X1_becomeLike (by decide) (by decide) (Or.inl ba_X8_becomeLike.2.2.2.2.2.2.2.1) (T := TX1) (N := 6) rfl (by decide) bp_X1_becomeLike
  · cases h2; exact ec_cV (bm_X2_becomeLike l) bw_X2_becomeLike bv_X2_becomeLike (by decide) (by decide) (Or.inl ba_X8_becomeLike.2.2.2.2.2.2.2.2.1) (T := TX2) (N := 7) rfl (by decide) bp_X2_becomeLike
  · cases h2
theorem bj_X8_becomeLike (l : Launch) : ex_ok l 3 68 bx_X8_becomeLike := ec_okp fo_X8 co_X8 so_X8 (bk_X8_becomeLike l)
theorem bm_X8_becomeLike (l : Launch) : ex_Met l yX8_becomeLike cX8_becomeLike 2 none 3 68 (ab_sp ab_hd bc_X8_becomeLike) := ab_met (by decide) pn_RX8 rfl (bj_X8_becomeLike l) bd_X8_becomeLike ab_hcm ab_xk bz_X8_becomeLike
theorem ba_X8_isCheck : ec_al [(725, Cond.code yX8_isCheck cX8_isCheck 4 (some .boolean)), (60, Cond.initialized yX8_isCheck.cls), (724, Cond.instanceMethod yX8_isCheck), (8, Cond.selects yX8_isCheck.cls yX8_isCheck yX8_isCheck), (621, Cond.methodLink RX8 116 yX6_has), (726, Cond.methodLink RX8 208 yX0_isSort), (521, Cond.methodLink RX8 100 yX0_hasModule)] := ec_alk (by decide +kernel)
theorem bw_X8_isCheck : ec_cw yX8_isCheck cX8_isCheck 4 (some .boolean) := ⟨ba_X8_isCheck.1, ba_X8_isCheck.2.1, nc_RX8⟩
theorem bv_X8_isCheck : Cond.instanceMethod yX8_isCheck ∈ ec_tb ∧ Cond.selects yX8_isCheck.cls yX8_isCheck yX8_isCheck ∈ ec_tb := ⟨ba_X8_isCheck.2.2.1, ba_X8_isCheck.2.2.2.1⟩
theorem bp_X8_isCheck : (parseMethodDescriptor yX8_isCheck.desc).map (fun d => d.parameters.length) = some 3 := by decide +kernel
theorem bk_X8_isCheck (l : Launch) : ∀ (ix n : Nat) (rc : Option Nat) (sp : ex_S), (be_X8_isCheck ix).map (fun q => (q.1, q.2.1, ab_sp ab_hd q.2.2)) = some (n, rc, sp) → ex_cok l RX8 1 21 ix n rc sp := by
  intro ix n rc sp h
  obtain ⟨l0, h2, rfl⟩ := ab_dmk h
  clear h
  unfold be_X8_isCheck at h2
  split at h2
  · cases h2; exact ec_cV (bm_X6_has l) bw_X6_has bv_X6_has (by decide) (by decide) (Or.inl ba_X8_isCheck.2.2.2.2.1) (T := TX6) (N := 15) rfl (by decide) bp_X6_has
  · cases h2; exact ec_cS (bm_X0_isSort l) bw_X0_isSort bv_X0_isSort (by decide) (by decide) (Or.inl ba_X8_isCheck.2.2.2.2.2.1) bp_X0_isSort
  · cases h2; exact ec_cV (bm_X0_hasModule l) bw_X0_hasModule bv_X0_hasModule (by decide) (by decide) (Or.inl ba_X8_isCheck.2.2.2.2.2.2.1) (T := TX0) (N := 8) rfl (by decide) bp_X0_hasModule
  · cases h2
theorem bj_X8_isCheck (l : Launch) : ex_ok l 1 21 bx_X8_isCheck := ec_okp fo_X8 co_X8 so_X8 (bk_X8_isCheck l)
theorem bm_X8_isCheck (l : Launch) : ex_Met l yX8_isCheck cX8_isCheck 4 (some .boolean) 1 21 (ab_sp ab_hd bc_X8_isCheck) := ab_met (by decide) pn_RX8 rfl (bj_X8_isCheck l) bd_X8_isCheck ab_hcm ab_xk bz_X8_isCheck
theorem ba_X8_holds : ec_al [(730, Cond.code yX8_holds cX8_holds 4 (some .boolean)), (60, Cond.initialized yX8_holds.cls), (729, Cond.instanceMethod yX8_holds), (9, Cond.selects yX8_holds.cls yX8_holds yX8_holds), (731, Cond.methodLink RX8 217 yX0_amount)] := ec_alk (by decide +kernel)
theorem bw_X8_holds : ec_cw yX8_holds cX8_holds 4 (some .boolean) := ⟨ba_X8_holds.1, ba_X8_holds.2.1, nc_RX8⟩
theorem bv_X8_holds : Cond.instanceMethod yX8_holds ∈ ec_tb ∧ Cond.selects yX8_holds.cls yX8_holds yX8_holds ∈ ec_tb := ⟨ba_X8_holds.2.2.1, ba_X8_holds.2.2.2.1⟩
theorem bp_X8_holds : (parseMethodDescriptor yX8_holds.desc).map (fun d => d.parameters.length) = some 3 := by decide +kernel
theorem bk_X8_holds (l : Launch) : ∀ (ix n : Nat) (rc : Option Nat) (sp : ex_S), (be_X8_holds ix).map (fun q => (q.1, q.2.1, ab_sp ab_hd q.2.2)) = some (n, rc, sp) → ex_cok l RX8 1 22 ix n rc sp := by
  intro ix n rc sp h
  obtain ⟨l0, h2, rfl⟩ := ab_dmk h
  clear h
  unfold be_X8_holds at h2
  split at h2
  · cases h2; exact ec_cV (bm_X0_amount l) bw_X0_amount bv_X0_amount (by decide) (by decide) (Or.inl ba_X8_holds.2.2.2.2.1) (T := TX0) (N := 8) rfl (by decide) bp_X0_amount
  · cases h2
theorem bj_X8_holds (l : Launch) : ex_ok l 1 22 bx_X8_holds := ec_okp fo_X8 co_X8 so_X8 (bk_X8_holds l)
theorem bm_X8_holds (l : Launch) : ex_Met l yX8_holds cX8_holds 4 (some .boolean) 1 22 (ab_sp ab_hd bc_X8_holds) := ab_met (by decide) pn_RX8 rfl (bj_X8_holds l) bd_X8_holds ab_hcm ab_xk bz_X8_holds
theorem ba_X8_lineAfterCheck : ec_al [(721, Cond.code yX8_lineAfterCheck cX8_lineAfterCheck 6 (some .int)), (60, Cond.initialized yX8_lineAfterCheck.cls), (720, Cond.instanceMethod yX8_lineAfterCheck), (7, Cond.selects yX8_lineAfterCheck.cls yX8_lineAfterCheck yX8_lineAfterCheck), (706, Cond.methodLink RX8 149 yX7_has), (722, Cond.methodLink RX8 201 yX8_isCheck), (727, Cond.methodLink RX8 205 yX8_holds)] := ec_alk (by decide +kernel)
theorem bw_X8_lineAfterCheck : ec_cw yX8_lineAfterCheck cX8_lineAfterCheck 6 (some .int) := ⟨ba_X8_lineAfterCheck.1, ba_X8_lineAfterCheck.2.1, nc_RX8⟩
theorem bv_X8_lineAfterCheck : Cond.instanceMethod yX8_lineAfterCheck ∈ ec_tb ∧ Cond.selects yX8_lineAfterCheck.cls yX8_lineAfterCheck yX8_lineAfterCheck ∈ ec_tb := ⟨ba_X8_lineAfterCheck.2.2.1, ba_X8_lineAfterCheck.2.2.2.1⟩
theorem bp_X8_lineAfterCheck : (parseMethodDescriptor yX8_lineAfterCheck.desc).map (fun d => d.parameters.length) = some 1 := by decide +kernel
theorem bk_X8_lineAfterCheck (l : Launch) : ∀ (ix n : Nat) (rc : Option Nat) (sp : ex_S), (be_X8_lineAfterCheck ix).map (fun q => (q.1, q.2.1, ab_sp ab_hd q.2.2)) = some (n, rc, sp) → ex_cok l RX8 2 45 ix n rc sp := by
  intro ix n rc sp h
  obtain ⟨l0, h2, rfl⟩ := ab_dmk h
  clear h
  unfold be_X8_lineAfterCheck at h2
  split at h2
  · cases h2; exact ec_cV (bm_X7_has l) bw_X7_has bv_X7_has (by decide) (by decide) (Or.inl ba_X8_lineAfterCheck.2.2.2.2.1) (T := TX7) (N := 5) rfl (by decide) bp_X7_has
  · cases h2; exact ec_cV (bm_X8_isCheck l) bw_X8_isCheck bv_X8_isCheck (by decide) (by decide) (Or.inl ba_X8_lineAfterCheck.2.2.2.2.2.1) (T := TX8) (N := 7) rfl (by decide) bp_X8_isCheck
  · cases h2; exact ec_cV (bm_X8_holds l) bw_X8_holds bv_X8_holds (by decide) (by decide) (Or.inl ba_X8_lineAfterCheck.2.2.2.2.2.2.1) (T := TX8) (N := 7) rfl (by decide) bp_X8_holds
  · cases h2
theorem bj_X8_lineAfterCheck (l : Launch) : ex_ok l 2 45 bx_X8_lineAfterCheck := ec_okp fo_X8 co_X8 so_X8 (bk_X8_lineAfterCheck l)
theorem bm_X8_lineAfterCheck (l : Launch) : ex_Met l yX8_lineAfterCheck cX8_lineAfterCheck 6 (some .int) 2 45 (ab_sp ab_hd bc_X8_lineAfterCheck) := ab_met (by decide) pn_RX8 rfl (bj_X8_lineAfterCheck l) bd_X8_lineAfterCheck ab_hcm ab_xk bz_X8_lineAfterCheck
theorem ba_X8_walk : ec_al [(516, Cond.code yX8_walk cX8_walk 3 (some .int)), (60, Cond.initialized yX8_walk.cls), (514, Cond.instanceMethod yX8_walk), (515, Cond.selects yX8_walk.cls yX8_walk yX8_walk), (517, Cond.methodLink RX8 96 yX3_has), (521, Cond.methodLink RX8 100 yX0_hasModule), (523, Cond.methodLink RX8 104 yX3_mends), (527, Cond.methodLink RX8 111 yX0_openBetween)] := ec_alk (by decide +kernel)
theorem bw_X8_walk : ec_cw yX8_walk cX8_walk 3 (some .int) := ⟨ba_X8_walk.1, ba_X8_walk.2.1, nc_RX8⟩
theorem bv_X8_walk : Cond.instanceMethod yX8_walk ∈ ec_tb ∧ Cond.selects yX8_walk.cls yX8_walk yX8_walk ∈ ec_tb := ⟨ba_X8_walk.2.2.1, ba_X8_walk.2.2.2.1⟩
theorem bp_X8_walk : (parseMethodDescriptor yX8_walk.desc).map (fun d => d.parameters.length) = some 2 := by decide +kernel
theorem bk_X8_walk (l : Launch) : ∀ (ix n : Nat) (rc : Option Nat) (sp : ex_S), (be_X8_walk ix).map (fun q => (q.1, q.2.1, ab_sp ab_hd q.2.2)) = some (n, rc, sp) → ex_cok l RX8 1 24 ix n rc sp := by
  intro ix n rc sp h
  obtain ⟨l0, h2, rfl⟩ := ab_dmk h
  clear h
  unfold be_X8_walk at h2
  split at h2
  · cases h2; exact ec_cV (bm_X3_has l) bw_X3_has bv_X3_has (by decide) (by decide) (Or.inl ba_X8_walk.2.2.2.2.1) (T := TX3) (N := 7) rfl (by decide) bp_X3_has
  · cases h2; exact ec_cV (bm_X0_hasModule l) bw_X0_hasModule bv_X0_hasModule (by decide) (by decide) (Or.inl ba_X8_walk.2.2.2.2.2.1) (T := TX0) (N := 8) rfl (by decide) bp_X0_hasModule
  · cases h2; exact ec_cV (bm_X3_mends l) bw_X3_mends bv_X3_mends (by decide) (by decide) (Or.inl ba_X8_walk.2.2.2.2.2.2.1) (T := TX3) (N := 7) rfl (by decide) bp_X3_mends
  · cases h2; exact ec_cV (bm_X0_openBetween l) bw_X0_openBetween bv_X0_openBetween (by decide) (by decide) (Or.inl ba_X8_walk.2.2.2.2.2.2.2.1) (T := TX0) (N := 8) rfl (by decide) bp_X0_openBetween
  · cases h2
theorem bj_X8_walk (l : Launch) : ex_ok l 1 24 bx_X8_walk := ec_okp fo_X8 co_X8 so_X8 (bk_X8_walk l)
theorem bm_X8_walk (l : Launch) : ex_Met l yX8_walk cX8_walk 3 (some .int) 1 24 (ab_sp ab_hd bc_X8_walk) := ab_met (by decide) pn_RX8 rfl (bj_X8_walk l) bd_X8_walk ab_hcm ab_xk bz_X8_walk
theorem ba_X8_mend : ec_al [(620, Cond.code yX8_mend cX8_mend 5 (some .int)), (60, Cond.initialized yX8_mend.cls), (618, Cond.instanceMethod yX8_mend), (619, Cond.selects yX8_mend.cls yX8_mend yX8_mend), (517, Cond.methodLink RX8 96 yX3_has), (621, Cond.methodLink RX8 116 yX6_has), (622, Cond.methodLink RX8 121 yX3_isMended), (523, Cond.methodLink RX8 104 yX3_mends), (627, Cond.methodLink RX8 132 yX3_startMending)] := ec_alk (by decide +kernel)
theorem bw_X8_mend : ec_cw yX8_mend cX8_mend 5 (some .int) := ⟨ba_X8_mend.1, ba_X8_mend.2.1, nc_RX8⟩
theorem bv_X8_mend : Cond.instanceMethod yX8_mend ∈ ec_tb ∧ Cond.selects yX8_mend.cls yX8_mend yX8_mend ∈ ec_tb := ⟨ba_X8_mend.2.2.1, ba_X8_mend.2.2.2.1⟩
theorem bp_X8_mend : (parseMethodDescriptor yX8_mend.desc).map (fun d => d.parameters.length) = some 3 := by decide +kernel
theorem bk_X8_mend (l : Launch) : ∀ (ix n : Nat) (rc : Option Nat) (sp : ex_S), (be_X8_mend ix).map (fun q => (q.1, q.2.1, ab_sp ab_hd q.2.2)) = some (n, rc, sp) → ex_cok l RX8 1 23 ix n rc sp := by
  intro ix n rc sp h
  obtain ⟨l0, h2, rfl⟩ := ab_dmk h
  clear h
  unfold be_X8_mend at h2
  split at h2
  · cases h2; exact ec_cV (bm_X3_has l) bw_X3_has bv_X3_has (by decide) (by decide) (Or.inl ba_X8_mend.2.2.2.2.1) (T := TX3) (N := 7) rfl (by decide) bp_X3_has
  · cases h2; exact ec_cV (bm_X6_has l) bw_X6_has bv_X6_has (by decide) (by decide) (Or.inl ba_X8_mend.2.2.2.2.2.1) (T := TX6) (N := 15) rfl (by decide) bp_X6_has
  · cases h2; exact ec_cV (bm_X3_isMended l) bw_X3_isMended bv_X3_isMended (by decide) (by decide) (Or.inl ba_X8_mend.2.2.2.2.2.2.1) (T := TX3) (N := 7) rfl (by decide) bp_X3_isMended
  · cases h2; exact ec_cV (bm_X3_mends l) bw_X3_mends bv_X3_mends (by decide) (by decide) (Or.inl ba_X8_mend.2.2.2.2.2.2.2.1) (T := TX3) (N := 7) rfl (by decide) bp_X3_mends
  · cases h2; exact ec_cV (bm_X3_startMending l) bw_X3_startMending bv_X3_startMending (by decide) (by decide) (Or.inl ba_X8_mend.2.2.2.2.2.2.2.2.1) (T := TX3) (N := 7) rfl (by decide) bp_X3_startMending
  · cases h2
theorem bj_X8_mend (l : Launch) : ex_ok l 1 23 bx_X8_mend := ec_okp fo_X8 co_X8 so_X8 (bk_X8_mend l)
theorem bm_X8_mend (l : Launch) : ex_Met l yX8_mend cX8_mend 5 (some .int) 1 23 (ab_sp ab_hd bc_X8_mend) := ab_met (by decide) pn_RX8 rfl (bj_X8_mend l) bd_X8_mend ab_hcm ab_xk bz_X8_mend
theorem ba_X8_actByText : ec_al [(738, Cond.code yX8_actByText cX8_actByText 4 (some .int)), (60, Cond.initialized yX8_actByText.cls), (737, Cond.instanceMethod yX8_actByText), (10, Cond.selects yX8_actByText.cls yX8_actByText yX8_actByText), (739, Cond.methodLink RX8 184 yX6_setOn), (740, Cond.methodLink RX8 188 yX0_setOpen), (741, Cond.methodLink RX8 191 yX8_walk), (742, Cond.methodLink RX8 197 yX8_mend)] := ec_alk (by decide +kernel)
theorem bw_X8_actByText : ec_cw yX8_actByText cX8_actByText 4 (some .int) := ⟨ba_X8_actByText.1, ba_X8_actByText.2.1, nc_RX8⟩
theorem bv_X8_actByText : Cond.instanceMethod yX8_actByText ∈ ec_tb ∧ Cond.selects yX8_actByText.cls yX8_actByText yX8_actByText ∈ ec_tb := ⟨ba_X8_actByText.2.2.1, ba_X8_actByText.2.2.2.1⟩
theorem bp_X8_actByText : (parseMethodDescriptor yX8_actByText.desc).map (fun d => d.parameters.length) = some 1 := by decide +kernel
theorem bk_X8_actByText (l : Launch) : ∀ (ix n : Nat) (rc : Option Nat) (sp : ex_S), (be_X8_actByText ix).map (fun q => (q.1, q.2.1, ab_sp ab_hd q.2.2)) = some (n, rc, sp) → ex_cok l RX8 2 47 ix n rc sp := by
  intro ix n rc sp h
  obtain ⟨l0, h2, rfl⟩ := ab_dmk h
  clear h
  unfold be_X8_actByText at h2
  split at h2
  · cases h2; exact ec_cV (bm_X6_setOn l) bw_X6_setOn bv_X6_setOn (by decide) (by decide) (Or.inl ba_X8_actByText.2.2.2.2.1) (T := TX6) (N := 15) rfl (by decide) bp_X6_setOn
  · cases h2; exact ec_cV (bm_X0_setOpen l) bw_X0_setOpen bv_X0_setOpen (by decide) (by decide) (Or.inl ba_X8_actByText.2.2.2.2.2.1) (T := TX0) (N := 8) rfl (by decide) bp_X0_setOpen
  · cases h2; exact ec_cV (bm_X8_walk l) bw_X8_walk bv_X8_walk (by decide) (by decide) (Or.inl ba_X8_actByText.2.2.2.2.2.2.1) (T := TX8) (N := 7) rfl (by decide) bp_X8_walk
  · cases h2; exact ec_cV (bm_X8_mend l) bw_X8_mend bv_X8_mend (by decide) (by decide) (Or.inl ba_X8_actByText.2.2.2.2.2.2.2.1) (T := TX8) (N := 7) rfl (by decide) bp_X8_mend
  · cases h2
theorem bj_X8_actByText (l : Launch) : ex_ok l 2 47 bx_X8_actByText := ec_okp fo_X8 co_X8 so_X8 (bk_X8_actByText l)
theorem bm_X8_actByText (l : Launch) : ex_Met l yX8_actByText cX8_actByText 4 (some .int) 2 47 (ab_sp ab_hd bc_X8_actByText) := ab_met (by decide) pn_RX8 rfl (bj_X8_actByText l) bd_X8_actByText ab_hcm ab_xk bz_X8_actByText
theorem ba_X8_lineAfter : ec_al [(717, Cond.code yX8_lineAfter cX8_lineAfter 3 (some .int)), (60, Cond.initialized yX8_lineAfter.cls), (716, Cond.instanceMethod yX8_lineAfter), (6, Cond.selects yX8_lineAfter.cls yX8_lineAfter yX8_lineAfter), (718, Cond.methodLink RX8 171 yX8_lineAfterCheck), (706, Cond.methodLink RX8 149 yX7_has), (735, Cond.methodLink RX8 177 yX8_actByText)] := ec_alk (by decide +kernel)
theorem bw_X8_lineAfter : ec_cw yX8_lineAfter cX8_lineAfter 3 (some .int) := ⟨ba_X8_lineAfter.1, ba_X8_lineAfter.2.1, nc_RX8⟩
theorem bv_X8_lineAfter : Cond.instanceMethod yX8_lineAfter ∈ ec_tb ∧ Cond.selects yX8_lineAfter.cls yX8_lineAfter yX8_lineAfter ∈ ec_tb := ⟨ba_X8_lineAfter.2.2.1, ba_X8_lineAfter.2.2.2.1⟩
theorem bp_X8_lineAfter : (parseMethodDescriptor yX8_lineAfter.desc).map (fun d => d.parameters.length) = some 1 := by decide +kernel
theorem bk_X8_lineAfter (l : Launch) : ∀ (ix n : Nat) (rc : Option Nat) (sp : ex_S), (be_X8_lineAfter ix).map (fun q => (q.1, q.2.1, ab_sp ab_hd q.2.2)) = some (n, rc, sp) → ex_cok l RX8 3 70 ix n rc sp := by
  intro ix n rc sp h
  obtain ⟨l0, h2, rfl⟩ := ab_dmk h
  clear h
  unfold be_X8_lineAfter at h2
  split at h2
  · cases h2; exact ec_cV (bm_X8_lineAfterCheck l) bw_X8_lineAfterCheck bv_X8_lineAfterCheck (by decide) (by decide) (Or.inl ba_X8_lineAfter.2.2.2.2.1) (T := TX8) (N := 7) rfl (by decide) bp_X8_lineAfterCheck
  · cases h2; exact ec_cV (bm_X7_has l) bw_X7_has bv_X7_has (by decide) (by decide) (Or.inl ba_X8_lineAfter.2.2.2.2.2.1) (T := TX7) (N := 5) rfl (by decide) bp_X7_has
  · cases h2; exact ec_cV (bm_X8_actByText l) bw_X8_actByText bv_X8_actByText (by decide) (by decide) (Or.inl ba_X8_lineAfter.2.2.2.2.2.2.1) (T := TX8) (N := 7) rfl (by decide) bp_X8_actByText
  · cases h2
theorem bj_X8_lineAfter (l : Launch) : ex_ok l 3 70 bx_X8_lineAfter := ec_okp fo_X8 co_X8 so_X8 (bk_X8_lineAfter l)
theorem bm_X8_lineAfter (l : Launch) : ex_Met l yX8_lineAfter cX8_lineAfter 3 (some .int) 3 70 (ab_sp ab_hd bc_X8_lineAfter) := ab_met (by decide) pn_RX8 rfl (bj_X8_lineAfter l) bd_X8_lineAfter ab_hcm ab_xk bz_X8_lineAfter
theorem ba_X8_doText : ec_al [(705, Cond.code yX8_doText cX8_doText 2 none), (60, Cond.initialized yX8_doText.cls), (704, Cond.instanceMethod yX8_doText), (5, Cond.selects yX8_doText.cls yX8_doText yX8_doText), (706, Cond.methodLink RX8 149 yX7_has), (710, Cond.methodLink RX8 152 yX2_finish), (714, Cond.methodLink RX8 161 yX8_lineAfter), (744, Cond.methodLink RX8 165 yX2_goOnAt)] := ec_alk (by decide +kernel)
theorem bw_X8_doText : ec_cw yX8_doText cX8_doText 2 none := ⟨ba_X8_doText.1, ba_X8_doText.2.1, nc_RX8⟩
theorem bv_X8_doText : Cond.instanceMethod yX8_doText ∈ ec_tb ∧ Cond.selects yX8_doText.cls yX8_doText yX8_doText ∈ ec_tb := ⟨ba_X8_doText.2.2.1, ba_X8_doText.2.2.2.1⟩
theorem bp_X8_doText : (parseMethodDescriptor yX8_doText.desc).map (fun d => d.parameters.length) = some 0 := by decide +kernel
theorem bk_X8_doText (l : Launch) : ∀ (ix n : Nat) (rc : Option Nat) (sp : ex_S), (be_X8_doText ix).map (fun q => (q.1, q.2.1, ab_sp ab_hd q.2.2)) = some (n, rc, sp) → ex_cok l RX8 4 92 ix n rc sp := by
  intro ix n rc sp h
  obtain ⟨l0, h2, rfl⟩ := ab_dmk h
  clear h
  unfold be_X8_doText at h2
  split at h2
  · cases h2; exact ec_cV (bm_X7_has l) bw_X7_has bv_X7_has (by decide) (by decide) (Or.inl ba_X8_doText.2.2.2.2.1) (T := TX7) (N := 5) rfl (by decide) bp_X7_has
  · cases h2; exact ec_cV (bm_X2_finish l) bw_X2_finish bv_X2_finish (by decide) (by decide) (Or.inl ba_X8_doText.2.2.2.2.2.1) (T := TX2) (N := 7) rfl (by decide) bp_X2_finish
  · cases h2; exact ec_cV (bm_X8_lineAfter l) bw_X8_lineAfter bv_X8_lineAfter (by decide) (by decide) (Or.inl ba_X8_doText.2.2.2.2.2.2.1) (T := TX8) (N := 7) rfl (by decide) bp_X8_lineAfter
  · cases h2; exact ec_cV (bm_X2_goOnAt l) bw_X2_goOnAt bv_X2_goOnAt (by decide) (by decide) (Or.inl ba_X8_doText.2.2.2.2.2.2.2.1) (T := TX2) (N := 7) rfl (by decide) bp_X2_goOnAt
  · cases h2
theorem bj_X8_doText (l : Launch) : ex_ok l 4 92 bx_X8_doText := ec_okp fo_X8 co_X8 so_X8 (bk_X8_doText l)
theorem bm_X8_doText (l : Launch) : ex_Met l yX8_doText cX8_doText 2 none 4 92 (ab_sp ab_hd bc_X8_doText) := ab_met (by decide) pn_RX8 rfl (bj_X8_doText l) bd_X8_doText ab_hcm ab_xk bz_X8_doText
theorem ba_X8_passTick : ec_al [(701, Cond.code yX8_passTick cX8_passTick 2 (some .boolean)), (60, Cond.initialized yX8_passTick.cls), (699, Cond.instanceMethod yX8_passTick), (700, Cond.selects yX8_passTick.cls yX8_passTick yX8_passTick), (702, Cond.methodLink RX8 70 yX8_doText), (753, Cond.methodLink RX8 73 yX3_mendOn), (761, Cond.methodLink RX8 76 yX6_sharePower), (765, Cond.methodLink RX8 80 yX6_workAll), (798, Cond.methodLink RX8 83 yX3_live), (819, Cond.methodLink RX8 86 yX0_leakOut), (826, Cond.methodLink RX8 89 yX0_mixThroughHatches), (834, Cond.methodLink RX8 92 yX1_look)] := ec_alk (by decide +kernel)
theorem bw_X8_passTick : ec_cw yX8_passTick cX8_passTick 2 (some .boolean) := ⟨ba_X8_passTick.1, ba_X8_passTick.2.1, nc_RX8⟩
theorem bv_X8_passTick : Cond.instanceMethod yX8_passTick ∈ ec_tb ∧ Cond.selects yX8_passTick.cls yX8_passTick yX8_passTick ∈ ec_tb := ⟨ba_X8_passTick.2.2.1, ba_X8_passTick.2.2.2.1⟩
theorem bp_X8_passTick : (parseMethodDescriptor yX8_passTick.desc).map (fun d => d.parameters.length) = some 0 := by decide +kernel
theorem bk_X8_passTick (l : Launch) : ∀ (ix n : Nat) (rc : Option Nat) (sp : ex_S), (be_X8_passTick ix).map (fun q => (q.1, q.2.1, ab_sp ab_hd q.2.2)) = some (n, rc, sp) → ex_cok l RX8 5 113 ix n rc sp := by
  intro ix n rc sp h
  obtain ⟨l0, h2, rfl⟩ := ab_dmk h
  clear h
  unfold be_X8_passTick at h2
  split at h2
  · cases h2; exact ec_cV (bm_X8_doText l) bw_X8_doText bv_X8_doText (by decide) (by decide) (Or.inl ba_X8_passTick.2.2.2.2.1) (T := TX8) (N := 7) rfl (by decide) bp_X8_doText
  · cases h2; exact ec_cV (bm_X3_mendOn l) bw_X3_mendOn bv_X3_mendOn (by decide) (by decide) (Or.inl ba_X8_passTick.2.2.2.2.2.1) (T := TX3) (N := 7) rfl (by decide) bp_X3_mendOn
  · cases h2; exact ec_cV (bm_X6_sharePower l) bw_X6_sharePower bv_X6_sharePower (by decide) (by decide) (Or.inl ba_X8_passTick.2.2.2.2.2.2.1) (T := TX6) (N := 15) rfl (by decide) bp_X6_sharePower
  · cases h2; exact ec_cV (bm_X6_workAll l) bw_X6_workAll bv_X6_workAll (by decide) (by decide) (Or.inl ba_X8_passTick.2.2.2.2.2.2.2.1) (T := TX6) (N := 15) rfl (by decide) bp_X6_workAll
  · cases h2; exact ec_cV (bm_X3_live l) bw_X3_live bv_X3_live (by decide) (by decide) (Or.inl ba_X8_passTick.2.2.2.2.2.2.2.2.1) (T := TX3) (N := 7) rfl (by decide) bp_X3_live
  · cases h2; exact ec_cV (bm_X0_leakOut l) bw_X0_leakOut bv_X0_leakOut (by decide) (by decide) (Or.inl ba_X8_passTick.2.2.2.2.2.2.2.2.2.1) (T := TX0) (N := 8) rfl (by decide) bp_X0_leakOut
  · cases h2; exact ec_cV (bm_X0_mixThroughHatches l) bw_X0_mixThroughHatches bv_X0_mixThroughHatches (by decide) (by decide) (Or.inl ba_X8_passTick.2.2.2.2.2.2.2.2.2.2.1) (T := TX0) (N := 8) rfl (by decide) bp_X0_mixThroughHatches
  · cases h2; exact ec_cV (bm_X1_look l) bw_X1_look bv_X1_look (by decide) (by decide) (Or.inl ba_X8_passTick.2.2.2.2.2.2.2.2.2.2.2.1) (T := TX1) (N := 6) rfl (by decide) bp_X1_look
  · cases h2
theorem bj_X8_passTick (l : Launch) : ex_ok l 5 113 bx_X8_passTick := ec_okp fo_X8 co_X8 so_X8 (bk_X8_passTick l)
theorem bm_X8_passTick (l : Launch) : ex_Met l yX8_passTick cX8_passTick 2 (some .boolean) 5 113 (ab_sp ab_hd bc_X8_passTick) := ab_met (by decide) pn_RX8 rfl (bj_X8_passTick l) bd_X8_passTick ab_hcm ab_xk bz_X8_passTick
theorem ba_X9_counted : ec_al [(427, Cond.code yX9_counted cX9_counted 2 (some .int)), (58, Cond.initialized yX9_counted.cls), (426, Cond.instanceMethod yX9_counted), (0, Cond.selects yX9_counted.cls yX9_counted yX9_counted)] := ec_alk (by decide +kernel)
theorem bw_X9_counted : ec_cw yX9_counted cX9_counted 2 (some .int) := ⟨ba_X9_counted.1, ba_X9_counted.2.1, nc_RX9⟩
theorem bv_X9_counted : Cond.instanceMethod yX9_counted ∈ ec_tb ∧ Cond.selects yX9_counted.cls yX9_counted yX9_counted ∈ ec_tb := ⟨ba_X9_counted.2.2.1, ba_X9_counted.2.2.2.1⟩
theorem bp_X9_counted : (parseMethodDescriptor yX9_counted.desc).map (fun d => d.parameters.length) = some 1 := by decide +kernel
theorem bj_X9_counted (l : Launch) : ex_ok l 0 0 bx_X9_counted := ec_okp fo_X9 co_X9 so_X9 (ec_okn)
theorem bm_X9_counted (l : Launch) : ex_Met l yX9_counted cX9_counted 2 (some .int) 0 0 (ab_sp ab_hd bc_X9_counted) := ab_met (by decide) pn_RX9 rfl (bj_X9_counted l) bd_X9_counted ab_hcm ab_xk bz_X9_counted
theorem ba_X9_module : ec_al [(418, Cond.code yX9_module cX9_module 1 (some .int)), (58, Cond.initialized yX9_module.cls), (416, Cond.instanceMethod yX9_module), (417, Cond.selects yX9_module.cls yX9_module yX9_module), (419, Cond.methodLink RX9 58 yX0_addModule), (424, Cond.methodLink RX9 64 yX9_counted)] := ec_alk (by decide +kernel)
theorem bw_X9_module : ec_cw yX9_module cX9_module 1 (some .int) := ⟨ba_X9_module.1, ba_X9_module.2.1, nc_RX9⟩
theorem bv_X9_module : Cond.instanceMethod yX9_module ∈ ec_tb ∧ Cond.selects yX9_module.cls yX9_module yX9_module ∈ ec_tb := ⟨ba_X9_module.2.2.1, ba_X9_module.2.2.2.1⟩
theorem bp_X9_module : (parseMethodDescriptor yX9_module.desc).map (fun d => d.parameters.length) = some 0 := by decide +kernel
theorem bk_X9_module (l : Launch) : ∀ (ix n : Nat) (rc : Option Nat) (sp : ex_S), (be_X9_module ix).map (fun q => (q.1, q.2.1, ab_sp ab_hd q.2.2)) = some (n, rc, sp) → ex_cok l RX9 1 21 ix n rc sp := by
  intro ix n rc sp h
  obtain ⟨l0, h2, rfl⟩ := ab_dmk h
  clear h
  unfold be_X9_module at h2
  split at h2
  · cases h2; exact ec_cV (bm_X0_addModule l) bw_X0_addModule bv_X0_addModule (by decide) (by decide) (Or.inl ba_X9_module.2.2.2.2.1) (T := TX0) (N := 8) rfl (by decide) bp_X0_addModule
  · cases h2; exact ec_cV (bm_X9_counted l) bw_X9_counted bv_X9_counted (by decide) (by decide) (Or.inl ba_X9_module.2.2.2.2.2.1) (T := TX9) (N := 10) rfl (by decide) bp_X9_counted
  · cases h2
theorem bj_X9_module (l : Launch) : ex_ok l 1 21 bx_X9_module := ec_okp fo_X9 co_X9 so_X9 (bk_X9_module l)
theorem bm_X9_module (l : Launch) : ex_Met l yX9_module cX9_module 1 (some .int) 1 21 (ab_sp ab_hd bc_X9_module) := ab_met (by decide) pn_RX9 rfl (bj_X9_module l) bd_X9_module ab_hcm ab_xk bz_X9_module
theorem ba_X9_hatch : ec_al [(433, Cond.code yX9_hatch cX9_hatch 3 (some .int)), (58, Cond.initialized yX9_hatch.cls), (431, Cond.instanceMethod yX9_hatch), (432, Cond.selects yX9_hatch.cls yX9_hatch yX9_hatch), (434, Cond.methodLink RX9 68 yX0_addHatch), (424, Cond.methodLink RX9 64 yX9_counted)] := ec_alk (by decide +kernel)
theorem bw_X9_hatch : ec_cw yX9_hatch cX9_hatch 3 (some .int) := ⟨ba_X9_hatch.1, ba_X9_hatch.2.1, nc_RX9⟩
theorem bv_X9_hatch : Cond.instanceMethod yX9_hatch ∈ ec_tb ∧ Cond.selects yX9_hatch.cls yX9_hatch yX9_hatch ∈ ec_tb := ⟨ba_X9_hatch.2.2.1, ba_X9_hatch.2.2.2.1⟩
theorem bp_X9_hatch : (parseMethodDescriptor yX9_hatch.desc).map (fun d => d.parameters.length) = some 2 := by decide +kernel
theorem bk_X9_hatch (l : Launch) : ∀ (ix n : Nat) (rc : Option Nat) (sp : ex_S), (be_X9_hatch ix).map (fun q => (q.1, q.2.1, ab_sp ab_hd q.2.2)) = some (n, rc, sp) → ex_cok l RX9 2 43 ix n rc sp := by
  intro ix n rc sp h
  obtain ⟨l0, h2, rfl⟩ := ab_dmk h
  clear h
  unfold be_X9_hatch at h2
  split at h2
  · cases h2; exact ec_cV (bm_X0_addHatch l) bw_X0_addHatch bv_X0_addHatch (by decide) (by decide) (Or.inl ba_X9_hatch.2.2.2.2.1) (T := TX0) (N := 8) rfl (by decide) bp_X0_addHatch
  · cases h2; exact ec_cV (bm_X9_counted l) bw_X9_counted bv_X9_counted (by decide) (by decide) (Or.inl ba_X9_hatch.2.2.2.2.2.1) (T := TX9) (N := 10) rfl (by decide) bp_X9_counted
  · cases h2
theorem bj_X9_hatch (l : Launch) : ex_ok l 2 43 bx_X9_hatch := ec_okp fo_X9 co_X9 so_X9 (bk_X9_hatch l)
theorem bm_X9_hatch (l : Launch) : ex_Met l yX9_hatch cX9_hatch 3 (some .int) 2 43 (ab_sp ab_hd bc_X9_hatch) := ab_met (by decide) pn_RX9 rfl (bj_X9_hatch l) bd_X9_hatch ab_hcm ab_xk bz_X9_hatch
theorem ba_X9_shut : ec_al [(446, Cond.code yX9_shut cX9_shut 3 (some .int)), (58, Cond.initialized yX9_shut.cls), (444, Cond.instanceMethod yX9_shut), (445, Cond.selects yX9_shut.cls yX9_shut yX9_shut), (447, Cond.methodLink RX9 72 yX0_setOpen), (424, Cond.methodLink RX9 64 yX9_counted)] := ec_alk (by decide +kernel)
theorem bw_X9_shut : ec_cw yX9_shut cX9_shut 3 (some .int) := ⟨ba_X9_shut.1, ba_X9_shut.2.1, nc_RX9⟩
theorem bv_X9_shut : Cond.instanceMethod yX9_shut ∈ ec_tb ∧ Cond.selects yX9_shut.cls yX9_shut yX9_shut ∈ ec_tb := ⟨ba_X9_shut.2.2.1, ba_X9_shut.2.2.2.1⟩
theorem bp_X9_shut : (parseMethodDescriptor yX9_shut.desc).map (fun d => d.parameters.length) = some 2 := by decide +kernel
theorem bk_X9_shut (l : Launch) : ∀ (ix n : Nat) (rc : Option Nat) (sp : ex_S), (be_X9_shut ix).map (fun q => (q.1, q.2.1, ab_sp ab_hd q.2.2)) = some (n, rc, sp) → ex_cok l RX9 2 44 ix n rc sp := by
  intro ix n rc sp h
  obtain ⟨l0, h2, rfl⟩ := ab_dmk h
  clear h
  unfold be_X9_shut at h2
  split at h2
  · cases h2; exact ec_cV (bm_X0_setOpen l) bw_X0_setOpen bv_X0_setOpen (by decide) (by decide) (Or.inl ba_X9_shut.2.2.2.2.1) (T := TX0) (N := 8) rfl (by decide) bp_X0_setOpen
  · cases h2; exact ec_cV (bm_X9_counted l) bw_X9_counted bv_X9_counted (by decide) (by decide) (Or.inl ba_X9_shut.2.2.2.2.2.1) (T := TX9) (N := 10) rfl (by decide) bp_X9_counted
  · cases h2
theorem bj_X9_shut (l : Launch) : ex_ok l 2 44 bx_X9_shut := ec_okp fo_X9 co_X9 so_X9 (bk_X9_shut l)
theorem bm_X9_shut (l : Launch) : ex_Met l yX9_shut cX9_shut 3 (some .int) 2 44 (ab_sp ab_hd bc_X9_shut) := ab_met (by decide) pn_RX9 rfl (bj_X9_shut l) bd_X9_shut ab_hcm ab_xk bz_X9_shut
theorem ba_X9_gas : ec_al [(464, Cond.code yX9_gas cX9_gas 4 (some .int)), (58, Cond.initialized yX9_gas.cls), (462, Cond.instanceMethod yX9_gas), (463, Cond.selects yX9_gas.cls yX9_gas yX9_gas), (465, Cond.methodLink RX9 75 yX0_setHeld), (424, Cond.methodLink RX9 64 yX9_counted)] := ec_alk (by decide +kernel)
theorem bw_X9_gas : ec_cw yX9_gas cX9_gas 4 (some .int) := ⟨ba_X9_gas.1, ba_X9_gas.2.1, nc_RX9⟩
theorem bv_X9_gas : Cond.instanceMethod yX9_gas ∈ ec_tb ∧ Cond.selects yX9_gas.cls yX9_gas yX9_gas ∈ ec_tb := ⟨ba_X9_gas.2.2.1, ba_X9_gas.2.2.2.1⟩
theorem bp_X9_gas : (parseMethodDescriptor yX9_gas.desc).map (fun d => d.parameters.length) = some 3 := by decide +kernel
theorem bk_X9_gas (l : Launch) : ∀ (ix n : Nat) (rc : Option Nat) (sp : ex_S), (be_X9_gas ix).map (fun q => (q.1, q.2.1, ab_sp ab_hd q.2.2)) = some (n, rc, sp) → ex_cok l RX9 2 45 ix n rc sp := by
  intro ix n rc sp h
  obtain ⟨l0, h2, rfl⟩ := ab_dmk h
  clear h
  unfold be_X9_gas at h2
  split at h2
  · cases h2; exact ec_cV (bm_X0_setHeld l) bw_X0_setHeld bv_X0_setHeld (by decide) (by decide) (Or.inl ba_X9_gas.2.2.2.2.1) (T := TX0) (N := 8) rfl (by decide) bp_X0_setHeld
  · cases h2; exact ec_cV (bm_X9_counted l) bw_X9_counted bv_X9_counted (by decide) (by decide) (Or.inl ba_X9_gas.2.2.2.2.2.1) (T := TX9) (N := 10) rfl (by decide) bp_X9_counted
  · cases h2
theorem bj_X9_gas (l : Launch) : ex_ok l 2 45 bx_X9_gas := ec_okp fo_X9 co_X9 so_X9 (bk_X9_gas l)
theorem bm_X9_gas (l : Launch) : ex_Met l yX9_gas cX9_gas 4 (some .int) 2 45 (ab_sp ab_hd bc_X9_gas) := ab_met (by decide) pn_RX9 rfl (bj_X9_gas l) bd_X9_gas ab_hcm ab_xk bz_X9_gas

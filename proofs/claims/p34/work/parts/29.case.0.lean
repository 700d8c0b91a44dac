set_option maxRecDepth 100000 in
set_option maxHeartbeats 40000000 in
theorem case_0 {xs : Nat → Int32} {L : Nat} {i : Int32} {cs : ex_C} (hi1 : 0 ≤ i.toInt) (hi2 : i.toInt + 5 ≤ (L : Int)) (hL : L ≤ 2560) (hk : ab_hk ab_hd cs) (hR : rel_R cs) : ex_go (ec_xt ++ [(L, xs)]) bx_L cL_law (some .boolean) (law_I i) law_Q 60 232 [some (.ref 1003), some (.ref 0), some (.ref 76), some (.int i)] [] cs := by
  refine go_wp rfl (wq_aload_n dL_law_232 rfl rfl ?_)
  obtain ⟨fs1, ho1, -⟩ := hk.obj (a := 0) (ci := 9) rfl
  refine go_wp rfl (wq_virtual (q := 1) (ci := 9) (a := 0) (av := [.ref 0]) (r := []) dL_law_233 rfl (Nat.le_of_ble_eq_true rfl) rfl rfl rfl (Nat.le_of_ble_eq_true rfl) ho1 rfl (lw_call rfl pr_0 hk (fun r1 cs1 hp1 => ?_)))
  obtain ⟨⟨x1, e1⟩, hk1, hf1⟩ := po_int hp1 rfl
  subst e1
  refine ret_int ?_
  refine go_wp rfl (wq_pop dL_law_236 rfl rfl ?_)
  refine go_wp rfl (wq_aload_n dL_law_237 rfl rfl ?_)
  obtain ⟨fs2, ho2, -⟩ := hk1.obj (a := 76) (ci := 10) rfl
  refine go_wp rfl (wq_virtual (q := 1) (ci := 10) (a := 76) (av := [.ref 76]) (r := []) dL_law_238 rfl (Nat.le_of_ble_eq_true rfl) rfl rfl rfl (Nat.le_of_ble_eq_true rfl) ho2 rfl (lw_call rfl pr_0 hk1 (fun r2 cs2 hp2 => ?_)))
  obtain ⟨⟨x2, e2⟩, hk2, hf2⟩ := po_int hp2 rfl
  subst e2
  refine ret_int ?_
  refine go_wp rfl (wq_pop dL_law_241 rfl rfl ?_)
  refine go_wp rfl (wq_goto (t := 1540) dL_law_242 (by decide) ?_)
  refine go_wp rfl (wq_iinc (v := i + Int32.ofInt 5) (lv' := [some (.ref 1003), some (.ref 0), some (.ref 76), some (.int (i + Int32.ofInt 5))]) dL_law_1540 rfl ⟨Nat.le_of_ble_eq_true rfl, rfl⟩ rfl rfl rfl ?_)
  refine go_wp rfl (wq_goto (t := 18) dL_law_1543 (by decide) ?_)
  exact go_cut rfl ⟨rfl, rfl, hk2, (step_module rfl rfl hp1 hp2 hR)⟩
set_option maxRecDepth 100000 in
set_option maxHeartbeats 40000000 in
theorem case_1 {xs : Nat → Int32} {L : Nat} {i : Int32} {cs : ex_C} (hi1 : 0 ≤ i.toInt) (hi2 : i.toInt + 5 ≤ (L : Int)) (hL : L ≤ 2560) (hk : ab_hk ab_hd cs) (hR : rel_R cs) : ex_go (ec_xt ++ [(L, xs)]) bx_L cL_law (some .boolean) (law_I i) law_Q 60 245 [some (.ref 1003), some (.ref 0), some (.ref 76), some (.int i)] [] cs := by
  refine go_wp rfl (wq_aload_n dL_law_245 rfl rfl ?_)
  refine go_wp rfl (wq_aload_n dL_law_246 rfl rfl ?_)
  refine go_wp rfl (wq_iload_n dL_law_247 rfl rfl ?_)
  refine go_wp rfl (wq_iconst (v := 1) dL_law_248 (by decide) rfl ?_)
  refine go_wp rfl (wq_iadd (v := i + 1) dL_law_249 rfl rfl ?_)
  refine go_wp rfl (wq_ialoadX (j := 3) (v := xs (i + 1).toNatClampNeg) dL_law_250 rfl rfl (ix_k hi1 hi2 hL (by decide)) rfl rfl ?_)
  refine go_wp rfl (wq_aload_n dL_law_251 rfl rfl ?_)
  refine go_wp rfl (wq_iload_n dL_law_252 rfl rfl ?_)
  refine go_wp rfl (wq_iconst (v := 2) dL_law_253 (by decide) rfl ?_)
  refine go_wp rfl (wq_iadd (v := i + 2) dL_law_254 rfl rfl ?_)
  refine go_wp rfl (wq_ialoadX (j := 3) (v := xs (i + 2).toNatClampNeg) dL_law_255 rfl rfl (ix_k hi1 hi2 hL (by decide)) rfl rfl ?_)
  obtain ⟨fs1, ho1, -⟩ := hk.obj (a := 0) (ci := 9) rfl
  obtain ⟨c9, hc9, hpre9, hall9, hnx⟩ := pick_hatch (a := (xs (i + 1).toNatClampNeg)) (b := (xs (i + 2).toNatClampNeg)) hk hR
  refine go_wp rfl (wq_virtual (q := 3) (ci := 9) (a := 0) (av := [.ref 0, .int (xs (i + 1).toNatClampNeg), .int (xs (i + 2).toNatClampNeg)]) (r := []) dL_law_256 rfl (Nat.le_of_ble_eq_true rfl) rfl rfl rfl (Nat.le_of_ble_eq_true rfl) ho1 rfl (lw_callm hc9 hpre9 hk (fun r1 cs1 hp1 => ?_)))
  obtain ⟨⟨x1, e1⟩, hk1, hf1⟩ := po_int hp1 hall9
  subst e1
  refine ret_int ?_
  refine go_wp rfl (wq_pop dL_law_259 rfl rfl ?_)
  refine go_wp rfl (wq_aload_n dL_law_260 rfl rfl ?_)
  refine go_wp rfl (wq_aload_n dL_law_261 rfl rfl ?_)
  refine go_wp rfl (wq_iload_n dL_law_262 rfl rfl ?_)
  refine go_wp rfl (wq_iconst (v := 1) dL_law_263 (by decide) rfl ?_)
  refine go_wp rfl (wq_iadd (v := i + 1) dL_law_264 rfl rfl ?_)
  refine go_wp rfl (wq_ialoadX (j := 3) (v := xs (i + 1).toNatClampNeg) dL_law_265 rfl rfl (ix_k hi1 hi2 hL (by decide)) rfl rfl ?_)
  refine go_wp rfl (wq_aload_n dL_law_266 rfl rfl ?_)
  refine go_wp rfl (wq_iload_n dL_law_267 rfl rfl ?_)
  refine go_wp rfl (wq_iconst (v := 2) dL_law_268 (by decide) rfl ?_)
  refine go_wp rfl (wq_iadd (v := i + 2) dL_law_269 rfl rfl ?_)
  refine go_wp rfl (wq_ialoadX (j := 3) (v := xs (i + 2).toNatClampNeg) dL_law_270 rfl rfl (ix_k hi1 hi2 hL (by decide)) rfl rfl ?_)
  obtain ⟨fs2, ho2, -⟩ := hk1.obj (a := 76) (ci := 10) rfl
  obtain ⟨d9, hd9, hpre10, hall10, hlast⟩ := hnx _ _ hp1
  refine go_wp rfl (wq_virtual (q := 3) (ci := 10) (a := 76) (av := [.ref 76, .int (xs (i + 1).toNatClampNeg), .int (xs (i + 2).toNatClampNeg)]) (r := []) dL_law_271 rfl (Nat.le_of_ble_eq_true rfl) rfl rfl rfl (Nat.le_of_ble_eq_true rfl) ho2 rfl (lw_callm hd9 hpre10 hk1 (fun r2 cs2 hp2 => ?_)))
  obtain ⟨⟨x2, e2⟩, hk2, hf2⟩ := po_int hp2 hall10
  subst e2
  refine ret_int ?_
  refine go_wp rfl (wq_pop dL_law_274 rfl rfl ?_)
  refine go_wp rfl (wq_goto (t := 1540) dL_law_275 (by decide) ?_)
  refine go_wp rfl (wq_iinc (v := i + Int32.ofInt 5) (lv' := [some (.ref 1003), some (.ref 0), some (.ref 76), some (.int (i + Int32.ofInt 5))]) dL_law_1540 rfl ⟨Nat.le_of_ble_eq_true rfl, rfl⟩ rfl rfl rfl ?_)
  refine go_wp rfl (wq_goto (t := 18) dL_law_1543 (by decide) ?_)
  exact go_cut rfl ⟨rfl, rfl, hk2, (hlast _ _ hp2)⟩
set_option maxRecDepth 100000 in
set_option maxHeartbeats 40000000 in
theorem case_2 {xs : Nat → Int32} {L : Nat} {i : Int32} {cs : ex_C} (hi1 : 0 ≤ i.toInt) (hi2 : i.toInt + 5 ≤ (L : Int)) (hL : L ≤ 2560) (hk : ab_hk ab_hd cs) (hR : rel_R cs) : ex_go (ec_xt ++ [(L, xs)]) bx_L cL_law (some .boolean) (law_I i) law_Q 60 278 [some (.ref 1003), some (.ref 0), some (.ref 76), some (.int i)] [] cs := by
  refine go_wp rfl (wq_aload_n dL_law_278 rfl rfl ?_)
  refine go_wp rfl (wq_aload_n dL_law_279 rfl rfl ?_)
  refine go_wp rfl (wq_iload_n dL_law_280 rfl rfl ?_)
  refine go_wp rfl (wq_iconst (v := 1) dL_law_281 (by decide) rfl ?_)
  refine go_wp rfl (wq_iadd (v := i + 1) dL_law_282 rfl rfl ?_)
  refine go_wp rfl (wq_ialoadX (j := 3) (v := xs (i + 1).toNatClampNeg) dL_law_283 rfl rfl (ix_k hi1 hi2 hL (by decide)) rfl rfl ?_)
  refine go_wp rfl (wq_aload_n dL_law_284 rfl rfl ?_)
  refine go_wp rfl (wq_iload_n dL_law_285 rfl rfl ?_)
  refine go_wp rfl (wq_iconst (v := 2) dL_law_286 (by decide) rfl ?_)
  refine go_wp rfl (wq_iadd (v := i + 2) dL_law_287 rfl rfl ?_)
  refine go_wp rfl (wq_ialoadX (j := 3) (v := xs (i + 2).toNatClampNeg) dL_law_288 rfl rfl (ix_k hi1 hi2 hL (by decide)) rfl rfl ?_)
  obtain ⟨fs1, ho1, -⟩ := hk.obj (a := 0) (ci := 9) rfl
  refine go_wp rfl (wq_virtual (q := 3) (ci := 9) (a := 0) (av := [.ref 0, .int (xs (i + 1).toNatClampNeg), .int (xs (i + 2).toNatClampNeg)]) (r := []) dL_law_289 rfl (Nat.le_of_ble_eq_true rfl) rfl rfl rfl (Nat.le_of_ble_eq_true rfl) ho1 rfl (lw_call rfl pr_2 hk (fun r1 cs1 hp1 => ?_)))
  obtain ⟨⟨x1, e1⟩, hk1, hf1⟩ := po_int hp1 rfl
  subst e1
  refine ret_int ?_
  refine go_wp rfl (wq_pop dL_law_292 rfl rfl ?_)
  refine go_wp rfl (wq_aload_n dL_law_293 rfl rfl ?_)
  refine go_wp rfl (wq_aload_n dL_law_294 rfl rfl ?_)
  refine go_wp rfl (wq_iload_n dL_law_295 rfl rfl ?_)
  refine go_wp rfl (wq_iconst (v := 1) dL_law_296 (by decide) rfl ?_)
  refine go_wp rfl (wq_iadd (v := i + 1) dL_law_297 rfl rfl ?_)
  refine go_wp rfl (wq_ialoadX (j := 3) (v := xs (i + 1).toNatClampNeg) dL_law_298 rfl rfl (ix_k hi1 hi2 hL (by decide)) rfl rfl ?_)
  refine go_wp rfl (wq_aload_n dL_law_299 rfl rfl ?_)
  refine go_wp rfl (wq_iload_n dL_law_300 rfl rfl ?_)
  refine go_wp rfl (wq_iconst (v := 2) dL_law_301 (by decide) rfl ?_)
  refine go_wp rfl (wq_iadd (v := i + 2) dL_law_302 rfl rfl ?_)
  refine go_wp rfl (wq_ialoadX (j := 3) (v := xs (i + 2).toNatClampNeg) dL_law_303 rfl rfl (ix_k hi1 hi2 hL (by decide)) rfl rfl ?_)
  obtain ⟨fs2, ho2, -⟩ := hk1.obj (a := 76) (ci := 10) rfl
  refine go_wp rfl (wq_virtual (q := 3) (ci := 10) (a := 76) (av := [.ref 76, .int (xs (i + 1).toNatClampNeg), .int (xs (i + 2).toNatClampNeg)]) (r := []) dL_law_304 rfl (Nat.le_of_ble_eq_true rfl) rfl rfl rfl (Nat.le_of_ble_eq_true rfl) ho2 rfl (lw_call rfl pr_2 hk1 (fun r2 cs2 hp2 => ?_)))
  obtain ⟨⟨x2, e2⟩, hk2, hf2⟩ := po_int hp2 rfl
  subst e2
  refine ret_int ?_
  refine go_wp rfl (wq_pop dL_law_307 rfl rfl ?_)
  refine go_wp rfl (wq_goto (t := 1540) dL_law_308 (by decide) ?_)
  refine go_wp rfl (wq_iinc (v := i + Int32.ofInt 5) (lv' := [some (.ref 1003), some (.ref 0), some (.ref 76), some (.int (i + Int32.ofInt 5))]) dL_law_1540 rfl ⟨Nat.le_of_ble_eq_true rfl, rfl⟩ rfl rfl rfl ?_)
  refine go_wp rfl (wq_goto (t := 18) dL_law_1543 (by decide) ?_)
  exact go_cut rfl ⟨rfl, rfl, hk2, rel_keep hf1 hf2 rfl rfl hR⟩
set_option maxRecDepth 100000 in
set_option maxHeartbeats 40000000 in
theorem case_3 {xs : Nat → Int32} {L : Nat} {i : Int32} {cs : ex_C} (hi1 : 0 ≤ i.toInt) (hi2 : i.toInt + 5 ≤ (L : Int)) (hL : L ≤ 2560) (hk : ab_hk ab_hd cs) (hR : rel_R cs) : ex_go (ec_xt ++ [(L, xs)]) bx_L cL_law (some .boolean) (law_I i) law_Q 60 311 [some (.ref 1003), some (.ref 0), some (.ref 76), some (.int i)] [] cs := by
  refine go_wp rfl (wq_aload_n dL_law_311 rfl rfl ?_)
  refine go_wp rfl (wq_aload_n dL_law_312 rfl rfl ?_)
  refine go_wp rfl (wq_iload_n dL_law_313 rfl rfl ?_)
  refine go_wp rfl (wq_iconst (v := 1) dL_law_314 (by decide) rfl ?_)
  refine go_wp rfl (wq_iadd (v := i + 1) dL_law_315 rfl rfl ?_)
  refine go_wp rfl (wq_ialoadX (j := 3) (v := xs (i + 1).toNatClampNeg) dL_law_316 rfl rfl (ix_k hi1 hi2 hL (by decide)) rfl rfl ?_)
  refine go_wp rfl (wq_aload_n dL_law_317 rfl rfl ?_)
  refine go_wp rfl (wq_iload_n dL_law_318 rfl rfl ?_)
  refine go_wp rfl (wq_iconst (v := 2) dL_law_319 (by decide) rfl ?_)
  refine go_wp rfl (wq_iadd (v := i + 2) dL_law_320 rfl rfl ?_)
  refine go_wp rfl (wq_ialoadX (j := 3) (v := xs (i + 2).toNatClampNeg) dL_law_321 rfl rfl (ix_k hi1 hi2 hL (by decide)) rfl rfl ?_)
  refine go_wp rfl (wq_aload_n dL_law_322 rfl rfl ?_)
  refine go_wp rfl (wq_iload_n dL_law_323 rfl rfl ?_)
  refine go_wp rfl (wq_iconst (v := 3) dL_law_324 (by decide) rfl ?_)
  refine go_wp rfl (wq_iadd (v := i + 3) dL_law_325 rfl rfl ?_)
  refine go_wp rfl (wq_ialoadX (j := 3) (v := xs (i + 3).toNatClampNeg) dL_law_326 rfl rfl (ix_k hi1 hi2 hL (by decide)) rfl rfl ?_)
  obtain ⟨fs1, ho1, -⟩ := hk.obj (a := 0) (ci := 9) rfl
  refine go_wp rfl (wq_virtual (q := 4) (ci := 9) (a := 0) (av := [.ref 0, .int (xs (i + 1).toNatClampNeg), .int (xs (i + 2).toNatClampNeg), .int (xs (i + 3).toNatClampNeg)]) (r := []) dL_law_327 rfl (Nat.le_of_ble_eq_true rfl) rfl rfl rfl (Nat.le_of_ble_eq_true rfl) ho1 rfl (lw_call rfl pr_3 hk (fun r1 cs1 hp1 => ?_)))
  obtain ⟨⟨x1, e1⟩, hk1, hf1⟩ := po_int hp1 rfl
  subst e1
  refine ret_int ?_
  refine go_wp rfl (wq_pop dL_law_330 rfl rfl ?_)
  refine go_wp rfl (wq_aload_n dL_law_331 rfl rfl ?_)
  refine go_wp rfl (wq_aload_n dL_law_332 rfl rfl ?_)
  refine go_wp rfl (wq_iload_n dL_law_333 rfl rfl ?_)
  refine go_wp rfl (wq_iconst (v := 1) dL_law_334 (by decide) rfl ?_)
  refine go_wp rfl (wq_iadd (v := i + 1) dL_law_335 rfl rfl ?_)
  refine go_wp rfl (wq_ialoadX (j := 3) (v := xs (i + 1).toNatClampNeg) dL_law_336 rfl rfl (ix_k hi1 hi2 hL (by decide)) rfl rfl ?_)
  refine go_wp rfl (wq_aload_n dL_law_337 rfl rfl ?_)
  refine go_wp rfl (wq_iload_n dL_law_338 rfl rfl ?_)
  refine go_wp rfl (wq_iconst (v := 2) dL_law_339 (by decide) rfl ?_)
  refine go_wp rfl (wq_iadd (v := i + 2) dL_law_340 rfl rfl ?_)
  refine go_wp rfl (wq_ialoadX (j := 3) (v := xs (i + 2).toNatClampNeg) dL_law_341 rfl rfl (ix_k hi1 hi2 hL (by decide)) rfl rfl ?_)
  refine go_wp rfl (wq_aload_n dL_law_342 rfl rfl ?_)
  refine go_wp rfl (wq_iload_n dL_law_343 rfl rfl ?_)
  refine go_wp rfl (wq_iconst (v := 3) dL_law_344 (by decide) rfl ?_)
  refine go_wp rfl (wq_iadd (v := i + 3) dL_law_345 rfl rfl ?_)
  refine go_wp rfl (wq_ialoadX (j := 3) (v := xs (i + 3).toNatClampNeg) dL_law_346 rfl rfl (ix_k hi1 hi2 hL (by decide)) rfl rfl ?_)
  obtain ⟨fs2, ho2, -⟩ := hk1.obj (a := 76) (ci := 10) rfl
  refine go_wp rfl (wq_virtual (q := 4) (ci := 10) (a := 76) (av := [.ref 76, .int (xs (i + 1).toNatClampNeg), .int (xs (i + 2).toNatClampNeg), .int (xs (i + 3).toNatClampNeg)]) (r := []) dL_law_347 rfl (Nat.le_of_ble_eq_true rfl) rfl rfl rfl (Nat.le_of_ble_eq_true rfl) ho2 rfl (lw_call rfl pr_3 hk1 (fun r2 cs2 hp2 => ?_)))
  obtain ⟨⟨x2, e2⟩, hk2, hf2⟩ := po_int hp2 rfl
  subst e2
  refine ret_int ?_
  refine go_wp rfl (wq_pop dL_law_350 rfl rfl ?_)
  refine go_wp rfl (wq_goto (t := 1540) dL_law_351 (by decide) ?_)
  refine go_wp rfl (wq_iinc (v := i + Int32.ofInt 5) (lv' := [some (.ref 1003), some (.ref 0), some (.ref 76), some (.int (i + Int32.ofInt 5))]) dL_law_1540 rfl ⟨Nat.le_of_ble_eq_true rfl, rfl⟩ rfl rfl rfl ?_)
  refine go_wp rfl (wq_goto (t := 18) dL_law_1543 (by decide) ?_)
  exact go_cut rfl ⟨rfl, rfl, hk2, rel_keep hf1 hf2 rfl rfl hR⟩
set_option maxRecDepth 100000 in
set_option maxHeartbeats 40000000 in
theorem case_4 {xs : Nat → Int32} {L : Nat} {i : Int32} {cs : ex_C} (hi1 : 0 ≤ i.toInt) (hi2 : i.toInt + 5 ≤ (L : Int)) (hL : L ≤ 2560) (hk : ab_hk ab_hd cs) (hR : rel_R cs) : ex_go (ec_xt ++ [(L, xs)]) bx_L cL_law (some .boolean) (law_I i) law_Q 60 354 [some (.ref 1003), some (.ref 0), some (.ref 76), some (.int i)] [] cs := by
  refine go_wp rfl (wq_aload_n dL_law_354 rfl rfl ?_)
  refine go_wp rfl (wq_aload_n dL_law_355 rfl rfl ?_)
  refine go_wp rfl (wq_iload_n dL_law_356 rfl rfl ?_)
  refine go_wp rfl (wq_iconst (v := 1) dL_law_357 (by decide) rfl ?_)
  refine go_wp rfl (wq_iadd (v := i + 1) dL_law_358 rfl rfl ?_)
  refine go_wp rfl (wq_ialoadX (j := 3) (v := xs (i + 1).toNatClampNeg) dL_law_359 rfl rfl (ix_k hi1 hi2 hL (by decide)) rfl rfl ?_)
  refine go_wp rfl (wq_aload_n dL_law_360 rfl rfl ?_)
  refine go_wp rfl (wq_iload_n dL_law_361 rfl rfl ?_)
  refine go_wp rfl (wq_iconst (v := 2) dL_law_362 (by decide) rfl ?_)
  refine go_wp rfl (wq_iadd (v := i + 2) dL_law_363 rfl rfl ?_)
  refine go_wp rfl (wq_ialoadX (j := 3) (v := xs (i + 2).toNatClampNeg) dL_law_364 rfl rfl (ix_k hi1 hi2 hL (by decide)) rfl rfl ?_)
  obtain ⟨fs1, ho1, -⟩ := hk.obj (a := 0) (ci := 9) rfl
  refine go_wp rfl (wq_virtual (q := 3) (ci := 9) (a := 0) (av := [.ref 0, .int (xs (i + 1).toNatClampNeg), .int (xs (i + 2).toNatClampNeg)]) (r := []) dL_law_365 rfl (Nat.le_of_ble_eq_true rfl) rfl rfl rfl (Nat.le_of_ble_eq_true rfl) ho1 rfl (lw_call rfl pr_2 hk (fun r1 cs1 hp1 => ?_)))
  obtain ⟨⟨x1, e1⟩, hk1, hf1⟩ := po_int hp1 rfl
  subst e1
  refine ret_int ?_
  refine go_wp rfl (wq_pop dL_law_368 rfl rfl ?_)
  refine go_wp rfl (wq_aload_n dL_law_369 rfl rfl ?_)
  refine go_wp rfl (wq_aload_n dL_law_370 rfl rfl ?_)
  refine go_wp rfl (wq_iload_n dL_law_371 rfl rfl ?_)
  refine go_wp rfl (wq_iconst (v := 1) dL_law_372 (by decide) rfl ?_)
  refine go_wp rfl (wq_iadd (v := i + 1) dL_law_373 rfl rfl ?_)
  refine go_wp rfl (wq_ialoadX (j := 3) (v := xs (i + 1).toNatClampNeg) dL_law_374 rfl rfl (ix_k hi1 hi2 hL (by decide)) rfl rfl ?_)
  refine go_wp rfl (wq_aload_n dL_law_375 rfl rfl ?_)
  refine go_wp rfl (wq_iload_n dL_law_376 rfl rfl ?_)
  refine go_wp rfl (wq_iconst (v := 2) dL_law_377 (by decide) rfl ?_)
  refine go_wp rfl (wq_iadd (v := i + 2) dL_law_378 rfl rfl ?_)
  refine go_wp rfl (wq_ialoadX (j := 3) (v := xs (i + 2).toNatClampNeg) dL_law_379 rfl rfl (ix_k hi1 hi2 hL (by decide)) rfl rfl ?_)
  obtain ⟨fs2, ho2, -⟩ := hk1.obj (a := 76) (ci := 10) rfl
  refine go_wp rfl (wq_virtual (q := 3) (ci := 10) (a := 76) (av := [.ref 76, .int (xs (i + 1).toNatClampNeg), .int (xs (i + 2).toNatClampNeg)]) (r := []) dL_law_380 rfl (Nat.le_of_ble_eq_true rfl) rfl rfl rfl (Nat.le_of_ble_eq_true rfl) ho2 rfl (lw_call rfl pr_2 hk1 (fun r2 cs2 hp2 => ?_)))
  obtain ⟨⟨x2, e2⟩, hk2, hf2⟩ := po_int hp2 rfl
  subst e2
  refine ret_int ?_
  refine go_wp rfl (wq_pop dL_law_383 rfl rfl ?_)
  refine go_wp rfl (wq_goto (t := 1540) dL_law_384 (by decide) ?_)
  refine go_wp rfl (wq_iinc (v := i + Int32.ofInt 5) (lv' := [some (.ref 1003), some (.ref 0), some (.ref 76), some (.int (i + Int32.ofInt 5))]) dL_law_1540 rfl ⟨Nat.le_of_ble_eq_true rfl, rfl⟩ rfl rfl rfl ?_)
  refine go_wp rfl (wq_goto (t := 18) dL_law_1543 (by decide) ?_)
  exact go_cut rfl ⟨rfl, rfl, hk2, rel_keep hf1 hf2 rfl rfl hR⟩
set_option maxRecDepth 100000 in
set_option maxHeartbeats 40000000 in
theorem case_5 {xs : Nat → Int32} {L : Nat} {i : Int32} {cs : ex_C} (hi1 : 0 ≤ i.toInt) (hi2 : i.toInt + 5 ≤ (L : Int)) (hL : L ≤ 2560) (hk : ab_hk ab_hd cs) (hR : rel_R cs) : ex_go (ec_xt ++ [(L, xs)]) bx_L cL_law (some .boolean) (law_I i) law_Q 60 387 [some (.ref 1003), some (.ref 0), some (.ref 76), some (.int i)] [] cs := by
  refine go_wp rfl (wq_aload_n dL_law_387 rfl rfl ?_)
  refine go_wp rfl (wq_aload_n dL_law_388 rfl rfl ?_)
  refine go_wp rfl (wq_iload_n dL_law_389 rfl rfl ?_)
  refine go_wp rfl (wq_iconst (v := 1) dL_law_390 (by decide) rfl ?_)
  refine go_wp rfl (wq_iadd (v := i + 1) dL_law_391 rfl rfl ?_)
  refine go_wp rfl (wq_ialoadX (j := 3) (v := xs (i + 1).toNatClampNeg) dL_law_392 rfl rfl (ix_k hi1 hi2 hL (by decide)) rfl rfl ?_)
  refine go_wp rfl (wq_aload_n dL_law_393 rfl rfl ?_)
  refine go_wp rfl (wq_iload_n dL_law_394 rfl rfl ?_)
  refine go_wp rfl (wq_iconst (v := 2) dL_law_395 (by decide) rfl ?_)
  refine go_wp rfl (wq_iadd (v := i + 2) dL_law_396 rfl rfl ?_)
  refine go_wp rfl (wq_ialoadX (j := 3) (v := xs (i + 2).toNatClampNeg) dL_law_397 rfl rfl (ix_k hi1 hi2 hL (by decide)) rfl rfl ?_)
  obtain ⟨fs1, ho1, -⟩ := hk.obj (a := 0) (ci := 9) rfl
  refine go_wp rfl (wq_virtual (q := 3) (ci := 9) (a := 0) (av := [.ref 0, .int (xs (i + 1).toNatClampNeg), .int (xs (i + 2).toNatClampNeg)]) (r := []) dL_law_398 rfl (Nat.le_of_ble_eq_true rfl) rfl rfl rfl (Nat.le_of_ble_eq_true rfl) ho1 rfl (lw_call rfl pr_2 hk (fun r1 cs1 hp1 => ?_)))
  obtain ⟨⟨x1, e1⟩, hk1, hf1⟩ := po_int hp1 rfl
  subst e1
  refine ret_int ?_
  refine go_wp rfl (wq_pop dL_law_401 rfl rfl ?_)
  refine go_wp rfl (wq_aload_n dL_law_402 rfl rfl ?_)
  refine go_wp rfl (wq_aload_n dL_law_403 rfl rfl ?_)
  refine go_wp rfl (wq_iload_n dL_law_404 rfl rfl ?_)
  refine go_wp rfl (wq_iconst (v := 1) dL_law_405 (by decide) rfl ?_)
  refine go_wp rfl (wq_iadd (v := i + 1) dL_law_406 rfl rfl ?_)
  refine go_wp rfl (wq_ialoadX (j := 3) (v := xs (i + 1).toNatClampNeg) dL_law_407 rfl rfl (ix_k hi1 hi2 hL (by decide)) rfl rfl ?_)
  refine go_wp rfl (wq_aload_n dL_law_408 rfl rfl ?_)
  refine go_wp rfl (wq_iload_n dL_law_409 rfl rfl ?_)
  refine go_wp rfl (wq_iconst (v := 2) dL_law_410 (by decide) rfl ?_)
  refine go_wp rfl (wq_iadd (v := i + 2) dL_law_411 rfl rfl ?_)
  refine go_wp rfl (wq_ialoadX (j := 3) (v := xs (i + 2).toNatClampNeg) dL_law_412 rfl rfl (ix_k hi1 hi2 hL (by decide)) rfl rfl ?_)
  obtain ⟨fs2, ho2, -⟩ := hk1.obj (a := 76) (ci := 10) rfl
  refine go_wp rfl (wq_virtual (q := 3) (ci := 10) (a := 76) (av := [.ref 76, .int (xs (i + 1).toNatClampNeg), .int (xs (i + 2).toNatClampNeg)]) (r := []) dL_law_413 rfl (Nat.le_of_ble_eq_true rfl) rfl rfl rfl (Nat.le_of_ble_eq_true rfl) ho2 rfl (lw_call rfl pr_2 hk1 (fun r2 cs2 hp2 => ?_)))
  obtain ⟨⟨x2, e2⟩, hk2, hf2⟩ := po_int hp2 rfl
  subst e2
  refine ret_int ?_
  refine go_wp rfl (wq_pop dL_law_416 rfl rfl ?_)
  refine go_wp rfl (wq_goto (t := 1540) dL_law_417 (by decide) ?_)
  refine go_wp rfl (wq_iinc (v := i + Int32.ofInt 5) (lv' := [some (.ref 1003), some (.ref 0), some (.ref 76), some (.int (i + Int32.ofInt 5))]) dL_law_1540 rfl ⟨Nat.le_of_ble_eq_true rfl, rfl⟩ rfl rfl rfl ?_)
  refine go_wp rfl (wq_goto (t := 18) dL_law_1543 (by decide) ?_)
  exact go_cut rfl ⟨rfl, rfl, hk2, rel_keep hf1 hf2 rfl rfl hR⟩
set_option maxRecDepth 100000 in
set_option maxHeartbeats 40000000 in
theorem case_6 {xs : Nat → Int32} {L : Nat} {i : Int32} {cs : ex_C} (hi1 : 0 ≤ i.toInt) (hi2 : i.toInt + 5 ≤ (L : Int)) (hL : L ≤ 2560) (hk : ab_hk ab_hd cs) (hR : rel_R cs) : ex_go (ec_xt ++ [(L, xs)]) bx_L cL_law (some .boolean) (law_I i) law_Q 60 420 [some (.ref 1003), some (.ref 0), some (.ref 76), some (.int i)] [] cs := by
  refine go_wp rfl (wq_aload_n dL_law_420 rfl rfl ?_)
  obtain ⟨fs1, ho1, -⟩ := hk.obj (a := 0) (ci := 9) rfl
  refine go_wp rfl (wq_virtual (q := 1) (ci := 9) (a := 0) (av := [.ref 0]) (r := []) dL_law_421 rfl (Nat.le_of_ble_eq_true rfl) rfl rfl rfl (Nat.le_of_ble_eq_true rfl) ho1 rfl (lw_call rfl pr_0 hk (fun r1 cs1 hp1 => ?_)))
  obtain ⟨⟨x1, e1⟩, hk1, hf1⟩ := po_int hp1 rfl
  subst e1
  refine ret_int ?_
  refine go_wp rfl (wq_pop dL_law_424 rfl rfl ?_)
  refine go_wp rfl (wq_aload_n dL_law_425 rfl rfl ?_)
  obtain ⟨fs2, ho2, -⟩ := hk1.obj (a := 76) (ci := 10) rfl
  refine go_wp rfl (wq_virtual (q := 1) (ci := 10) (a := 76) (av := [.ref 76]) (r := []) dL_law_426 rfl (Nat.le_of_ble_eq_true rfl) rfl rfl rfl (Nat.le_of_ble_eq_true rfl) ho2 rfl (lw_call rfl pr_0 hk1 (fun r2 cs2 hp2 => ?_)))
  obtain ⟨⟨x2, e2⟩, hk2, hf2⟩ := po_int hp2 rfl
  subst e2
  refine ret_int ?_
  refine go_wp rfl (wq_pop dL_law_429 rfl rfl ?_)
  refine go_wp rfl (wq_goto (t := 1540) dL_law_430 (by decide) ?_)
  refine go_wp rfl (wq_iinc (v := i + Int32.ofInt 5) (lv' := [some (.ref 1003), some (.ref 0), some (.ref 76), some (.int (i + Int32.ofInt 5))]) dL_law_1540 rfl ⟨Nat.le_of_ble_eq_true rfl, rfl⟩ rfl rfl rfl ?_)
  refine go_wp rfl (wq_goto (t := 18) dL_law_1543 (by decide) ?_)
  exact go_cut rfl ⟨rfl, rfl, hk2, rel_keep hf1 hf2 rfl rfl hR⟩
set_option maxRecDepth 100000 in
set_option maxHeartbeats 40000000 in
theorem case_7 {xs : Nat → Int32} {L : Nat} {i : Int32} {cs : ex_C} (hi1 : 0 ≤ i.toInt) (hi2 : i.toInt + 5 ≤ (L : Int)) (hL : L ≤ 2560) (hk : ab_hk ab_hd cs) (hR : rel_R cs) : ex_go (ec_xt ++ [(L, xs)]) bx_L cL_law (some .boolean) (law_I i) law_Q 60 433 [some (.ref 1003), some (.ref 0), some (.ref 76), some (.int i)] [] cs := by
  refine go_wp rfl (wq_aload_n dL_law_433 rfl rfl ?_)
  refine go_wp rfl (wq_aload_n dL_law_434 rfl rfl ?_)
  refine go_wp rfl (wq_iload_n dL_law_435 rfl rfl ?_)
  refine go_wp rfl (wq_iconst (v := 1) dL_law_436 (by decide) rfl ?_)
  refine go_wp rfl (wq_iadd (v := i + 1) dL_law_437 rfl rfl ?_)
  refine go_wp rfl (wq_ialoadX (j := 3) (v := xs (i + 1).toNatClampNeg) dL_law_438 rfl rfl (ix_k hi1 hi2 hL (by decide)) rfl rfl ?_)
  obtain ⟨fs1, ho1, -⟩ := hk.obj (a := 0) (ci := 9) rfl
  refine go_wp rfl (wq_virtual (q := 2) (ci := 9) (a := 0) (av := [.ref 0, .int (xs (i + 1).toNatClampNeg)]) (r := []) dL_law_439 rfl (Nat.le_of_ble_eq_true rfl) rfl rfl rfl (Nat.le_of_ble_eq_true rfl) ho1 rfl (lw_call rfl pr_1 hk (fun r1 cs1 hp1 => ?_)))
  obtain ⟨⟨x1, e1⟩, hk1, hf1⟩ := po_int hp1 rfl
  subst e1
  refine ret_int ?_
  refine go_wp rfl (wq_pop dL_law_442 rfl rfl ?_)
  refine go_wp rfl (wq_aload_n dL_law_443 rfl rfl ?_)
  refine go_wp rfl (wq_aload_n dL_law_444 rfl rfl ?_)
  refine go_wp rfl (wq_iload_n dL_law_445 rfl rfl ?_)
  refine go_wp rfl (wq_iconst (v := 1) dL_law_446 (by decide) rfl ?_)
  refine go_wp rfl (wq_iadd (v := i + 1) dL_law_447 rfl rfl ?_)
  refine go_wp rfl (wq_ialoadX (j := 3) (v := xs (i + 1).toNatClampNeg) dL_law_448 rfl rfl (ix_k hi1 hi2 hL (by decide)) rfl rfl ?_)
  obtain ⟨fs2, ho2, -⟩ := hk1.obj (a := 76) (ci := 10) rfl
  refine go_wp rfl (wq_virtual (q := 2) (ci := 10) (a := 76) (av := [.ref 76, .int (xs (i + 1).toNatClampNeg)]) (r := []) dL_law_449 rfl (Nat.le_of_ble_eq_true rfl) rfl rfl rfl (Nat.le_of_ble_eq_true rfl) ho2 rfl (lw_call rfl pr_1 hk1 (fun r2 cs2 hp2 => ?_)))
  obtain ⟨⟨x2, e2⟩, hk2, hf2⟩ := po_int hp2 rfl
  subst e2
  refine ret_int ?_
  refine go_wp rfl (wq_pop dL_law_452 rfl rfl ?_)
  refine go_wp rfl (wq_goto (t := 1540) dL_law_453 (by decide) ?_)
  refine go_wp rfl (wq_iinc (v := i + Int32.ofInt 5) (lv' := [some (.ref 1003), some (.ref 0), some (.ref 76), some (.int (i + Int32.ofInt 5))]) dL_law_1540 rfl ⟨Nat.le_of_ble_eq_true rfl, rfl⟩ rfl rfl rfl ?_)
  refine go_wp rfl (wq_goto (t := 18) dL_law_1543 (by decide) ?_)
  exact go_cut rfl ⟨rfl, rfl, hk2, rel_keep hf1 hf2 rfl rfl hR⟩
set_option maxRecDepth 100000 in
set_option maxHeartbeats 40000000 in
theorem case_8 {xs : Nat → Int32} {L : Nat} {i : Int32} {cs : ex_C} (hi1 : 0 ≤ i.toInt) (hi2 : i.toInt + 5 ≤ (L : Int)) (hL : L ≤ 2560) (hk : ab_hk ab_hd cs) (hR : rel_R cs) : ex_go (ec_xt ++ [(L, xs)]) bx_L cL_law (some .boolean) (law_I i) law_Q 60 456 [some (.ref 1003), some (.ref 0), some (.ref 76), some (.int i)] [] cs := by
  refine go_wp rfl (wq_aload_n dL_law_456 rfl rfl ?_)
  refine go_wp rfl (wq_aload_n dL_law_457 rfl rfl ?_)
  refine go_wp rfl (wq_iload_n dL_law_458 rfl rfl ?_)
  refine go_wp rfl (wq_iconst (v := 1) dL_law_459 (by decide) rfl ?_)
  refine go_wp rfl (wq_iadd (v := i + 1) dL_law_460 rfl rfl ?_)
  refine go_wp rfl (wq_ialoadX (j := 3) (v := xs (i + 1).toNatClampNeg) dL_law_461 rfl rfl (ix_k hi1 hi2 hL (by decide)) rfl rfl ?_)
  refine go_wp rfl (wq_aload_n dL_law_462 rfl rfl ?_)
  refine go_wp rfl (wq_iload_n dL_law_463 rfl rfl ?_)
  refine go_wp rfl (wq_iconst (v := 2) dL_law_464 (by decide) rfl ?_)
  refine go_wp rfl (wq_iadd (v := i + 2) dL_law_465 rfl rfl ?_)
  refine go_wp rfl (wq_ialoadX (j := 3) (v := xs (i + 2).toNatClampNeg) dL_law_466 rfl rfl (ix_k hi1 hi2 hL (by decide)) rfl rfl ?_)
  obtain ⟨fs1, ho1, -⟩ := hk.obj (a := 0) (ci := 9) rfl
  refine go_wp rfl (wq_virtual (q := 3) (ci := 9) (a := 0) (av := [.ref 0, .int (xs (i + 1).toNatClampNeg), .int (xs (i + 2).toNatClampNeg)]) (r := []) dL_law_467 rfl (Nat.le_of_ble_eq_true rfl) rfl rfl rfl (Nat.le_of_ble_eq_true rfl) ho1 rfl (lw_call rfl pr_2 hk (fun r1 cs1 hp1 => ?_)))
  obtain ⟨⟨x1, e1⟩, hk1, hf1⟩ := po_int hp1 rfl
  subst e1
  refine ret_int ?_
  refine go_wp rfl (wq_pop dL_law_470 rfl rfl ?_)
  refine go_wp rfl (wq_aload_n dL_law_471 rfl rfl ?_)
  refine go_wp rfl (wq_aload_n dL_law_472 rfl rfl ?_)
  refine go_wp rfl (wq_iload_n dL_law_473 rfl rfl ?_)
  refine go_wp rfl (wq_iconst (v := 1) dL_law_474 (by decide) rfl ?_)
  refine go_wp rfl (wq_iadd (v := i + 1) dL_law_475 rfl rfl ?_)
  refine go_wp rfl (wq_ialoadX (j := 3) (v := xs (i + 1).toNatClampNeg) dL_law_476 rfl rfl (ix_k hi1 hi2 hL (by decide)) rfl rfl ?_)
  refine go_wp rfl (wq_aload_n dL_law_477 rfl rfl ?_)
  refine go_wp rfl (wq_iload_n dL_law_478 rfl rfl ?_)
  refine go_wp rfl (wq_iconst (v := 2) dL_law_479 (by decide) rfl ?_)
  refine go_wp rfl (wq_iadd (v := i + 2) dL_law_480 rfl rfl ?_)
  refine go_wp rfl (wq_ialoadX (j := 3) (v := xs (i + 2).toNatClampNeg) dL_law_481 rfl rfl (ix_k hi1 hi2 hL (by decide)) rfl rfl ?_)
  obtain ⟨fs2, ho2, -⟩ := hk1.obj (a := 76) (ci := 10) rfl
  refine go_wp rfl (wq_virtual (q := 3) (ci := 10) (a := 76) (av := [.ref 76, .int (xs (i + 1).toNatClampNeg), .int (xs (i + 2).toNatClampNeg)]) (r := []) dL_law_482 rfl (Nat.le_of_ble_eq_true rfl) rfl rfl rfl (Nat.le_of_ble_eq_true rfl) ho2 rfl (lw_call rfl pr_2 hk1 (fun r2 cs2 hp2 => ?_)))
  obtain ⟨⟨x2, e2⟩, hk2, hf2⟩ := po_int hp2 rfl
  subst e2
  refine ret_int ?_
  refine go_wp rfl (wq_pop dL_law_485 rfl rfl ?_)
  refine go_wp rfl (wq_goto (t := 1540) dL_law_486 (by decide) ?_)
  refine go_wp rfl (wq_iinc (v := i + Int32.ofInt 5) (lv' := [some (.ref 1003), some (.ref 0), some (.ref 76), some (.int (i + Int32.ofInt 5))]) dL_law_1540 rfl ⟨Nat.le_of_ble_eq_true rfl, rfl⟩ rfl rfl rfl ?_)
  refine go_wp rfl (wq_goto (t := 18) dL_law_1543 (by decide) ?_)
  exact go_cut rfl ⟨rfl, rfl, hk2, rel_keep hf1 hf2 rfl rfl hR⟩
set_option maxRecDepth 100000 in
set_option maxHeartbeats 40000000 in
theorem case_9 {xs : Nat → Int32} {L : Nat} {i : Int32} {cs : ex_C} (hi1 : 0 ≤ i.toInt) (hi2 : i.toInt + 5 ≤ (L : Int)) (hL : L ≤ 2560) (hk : ab_hk ab_hd cs) (hR : rel_R cs) : ex_go (ec_xt ++ [(L, xs)]) bx_L cL_law (some .boolean) (law_I i) law_Q 60 489 [some (.ref 1003), some (.ref 0), some (.ref 76), some (.int i)] [] cs := by
  refine go_wp rfl (wq_aload_n dL_law_489 rfl rfl ?_)
  refine go_wp rfl (wq_aload_n dL_law_490 rfl rfl ?_)
  refine go_wp rfl (wq_iload_n dL_law_491 rfl rfl ?_)
  refine go_wp rfl (wq_iconst (v := 1) dL_law_492 (by decide) rfl ?_)
  refine go_wp rfl (wq_iadd (v := i + 1) dL_law_493 rfl rfl ?_)
  refine go_wp rfl (wq_ialoadX (j := 3) (v := xs (i + 1).toNatClampNeg) dL_law_494 rfl rfl (ix_k hi1 hi2 hL (by decide)) rfl rfl ?_)
  refine go_wp rfl (wq_aload_n dL_law_495 rfl rfl ?_)
  refine go_wp rfl (wq_iload_n dL_law_496 rfl rfl ?_)
  refine go_wp rfl (wq_iconst (v := 2) dL_law_497 (by decide) rfl ?_)
  refine go_wp rfl (wq_iadd (v := i + 2) dL_law_498 rfl rfl ?_)
  refine go_wp rfl (wq_ialoadX (j := 3) (v := xs (i + 2).toNatClampNeg) dL_law_499 rfl rfl (ix_k hi1 hi2 hL (by decide)) rfl rfl ?_)
  obtain ⟨fs1, ho1, -⟩ := hk.obj (a := 0) (ci := 9) rfl
  refine go_wp rfl (wq_virtual (q := 3) (ci := 9) (a := 0) (av := [.ref 0, .int (xs (i + 1).toNatClampNeg), .int (xs (i + 2).toNatClampNeg)]) (r := []) dL_law_500 rfl (Nat.le_of_ble_eq_true rfl) rfl rfl rfl (Nat.le_of_ble_eq_true rfl) ho1 rfl (lw_call rfl pr_2 hk (fun r1 cs1 hp1 => ?_)))
  obtain ⟨⟨x1, e1⟩, hk1, hf1⟩ := po_int hp1 rfl
  subst e1
  refine ret_int ?_
  refine go_wp rfl (wq_pop dL_law_503 rfl rfl ?_)
  refine go_wp rfl (wq_aload_n dL_law_504 rfl rfl ?_)
  refine go_wp rfl (wq_aload_n dL_law_505 rfl rfl ?_)
  refine go_wp rfl (wq_iload_n dL_law_506 rfl rfl ?_)
  refine go_wp rfl (wq_iconst (v := 1) dL_law_507 (by decide) rfl ?_)
  refine go_wp rfl (wq_iadd (v := i + 1) dL_law_508 rfl rfl ?_)
  refine go_wp rfl (wq_ialoadX (j := 3) (v := xs (i + 1).toNatClampNeg) dL_law_509 rfl rfl (ix_k hi1 hi2 hL (by decide)) rfl rfl ?_)
  refine go_wp rfl (wq_aload_n dL_law_510 rfl rfl ?_)
  refine go_wp rfl (wq_iload_n dL_law_511 rfl rfl ?_)
  refine go_wp rfl (wq_iconst (v := 2) dL_law_512 (by decide) rfl ?_)
  refine go_wp rfl (wq_iadd (v := i + 2) dL_law_513 rfl rfl ?_)
  refine go_wp rfl (wq_ialoadX (j := 3) (v := xs (i + 2).toNatClampNeg) dL_law_514 rfl rfl (ix_k hi1 hi2 hL (by decide)) rfl rfl ?_)
  obtain ⟨fs2, ho2, -⟩ := hk1.obj (a := 76) (ci := 10) rfl
  refine go_wp rfl (wq_virtual (q := 3) (ci := 10) (a := 76) (av := [.ref 76, .int (xs (i + 1).toNatClampNeg), .int (xs (i + 2).toNatClampNeg)]) (r := []) dL_law_515 rfl (Nat.le_of_ble_eq_true rfl) rfl rfl rfl (Nat.le_of_ble_eq_true rfl) ho2 rfl (lw_call rfl pr_2 hk1 (fun r2 cs2 hp2 => ?_)))
  obtain ⟨⟨x2, e2⟩, hk2, hf2⟩ := po_int hp2 rfl
  subst e2
  refine ret_int ?_
  refine go_wp rfl (wq_pop dL_law_518 rfl rfl ?_)
  refine go_wp rfl (wq_goto (t := 1540) dL_law_519 (by decide) ?_)
  refine go_wp rfl (wq_iinc (v := i + Int32.ofInt 5) (lv' := [some (.ref 1003), some (.ref 0), some (.ref 76), some (.int (i + Int32.ofInt 5))]) dL_law_1540 rfl ⟨Nat.le_of_ble_eq_true rfl, rfl⟩ rfl rfl rfl ?_)
  refine go_wp rfl (wq_goto (t := 18) dL_law_1543 (by decide) ?_)
  exact go_cut rfl ⟨rfl, rfl, hk2, rel_keep hf1 hf2 rfl rfl hR⟩
set_option maxRecDepth 100000 in
set_option maxHeartbeats 40000000 in
theorem case_10 {xs : Nat → Int32} {L : Nat} {i : Int32} {cs : ex_C} (hi1 : 0 ≤ i.toInt) (hi2 : i.toInt + 5 ≤ (L : Int)) (hL : L ≤ 2560) (hk : ab_hk ab_hd cs) (hR : rel_R cs) : ex_go (ec_xt ++ [(L, xs)]) bx_L cL_law (some .boolean) (law_I i) law_Q 60 522 [some (.ref 1003), some (.ref 0), some (.ref 76), some (.int i)] [] cs := by
  refine go_wp rfl (wq_aload_n dL_law_522 rfl rfl ?_)
  refine go_wp rfl (wq_aload_n dL_law_523 rfl rfl ?_)
  refine go_wp rfl (wq_iload_n dL_law_524 rfl rfl ?_)
  refine go_wp rfl (wq_iconst (v := 1) dL_law_525 (by decide) rfl ?_)
  refine go_wp rfl (wq_iadd (v := i + 1) dL_law_526 rfl rfl ?_)
  refine go_wp rfl (wq_ialoadX (j := 3) (v := xs (i + 1).toNatClampNeg) dL_law_527 rfl rfl (ix_k hi1 hi2 hL (by decide)) rfl rfl ?_)
  refine go_wp rfl (wq_aload_n dL_law_528 rfl rfl ?_)
  refine go_wp rfl (wq_iload_n dL_law_529 rfl rfl ?_)
  refine go_wp rfl (wq_iconst (v := 2) dL_law_530 (by decide) rfl ?_)
  refine go_wp rfl (wq_iadd (v := i + 2) dL_law_531 rfl rfl ?_)
  refine go_wp rfl (wq_ialoadX (j := 3) (v := xs (i + 2).toNatClampNeg) dL_law_532 rfl rfl (ix_k hi1 hi2 hL (by decide)) rfl rfl ?_)
  obtain ⟨fs1, ho1, -⟩ := hk.obj (a := 0) (ci := 9) rfl
  refine go_wp rfl (wq_virtual (q := 3) (ci := 9) (a := 0) (av := [.ref 0, .int (xs (i + 1).toNatClampNeg), .int (xs (i + 2).toNatClampNeg)]) (r := []) dL_law_533 rfl (Nat.le_of_ble_eq_true rfl) rfl rfl rfl (Nat.le_of_ble_eq_true rfl) ho1 rfl (lw_call rfl pr_2 hk (fun r1 cs1 hp1 => ?_)))
  obtain ⟨⟨x1, e1⟩, hk1, hf1⟩ := po_int hp1 rfl
  subst e1
  refine ret_int ?_
  refine go_wp rfl (wq_pop dL_law_536 rfl rfl ?_)
  refine go_wp rfl (wq_aload_n dL_law_537 rfl rfl ?_)
  refine go_wp rfl (wq_aload_n dL_law_538 rfl rfl ?_)
  refine go_wp rfl (wq_iload_n dL_law_539 rfl rfl ?_)
  refine go_wp rfl (wq_iconst (v := 1) dL_law_540 (by decide) rfl ?_)
  refine go_wp rfl (wq_iadd (v := i + 1) dL_law_541 rfl rfl ?_)
  refine go_wp rfl (wq_ialoadX (j := 3) (v := xs (i + 1).toNatClampNeg) dL_law_542 rfl rfl (ix_k hi1 hi2 hL (by decide)) rfl rfl ?_)
  refine go_wp rfl (wq_aload_n dL_law_543 rfl rfl ?_)
  refine go_wp rfl (wq_iload_n dL_law_544 rfl rfl ?_)
  refine go_wp rfl (wq_iconst (v := 2) dL_law_545 (by decide) rfl ?_)
  refine go_wp rfl (wq_iadd (v := i + 2) dL_law_546 rfl rfl ?_)
  refine go_wp rfl (wq_ialoadX (j := 3) (v := xs (i + 2).toNatClampNeg) dL_law_547 rfl rfl (ix_k hi1 hi2 hL (by decide)) rfl rfl ?_)
  obtain ⟨fs2, ho2, -⟩ := hk1.obj (a := 76) (ci := 10) rfl
  refine go_wp rfl (wq_virtual (q := 3) (ci := 10) (a := 76) (av := [.ref 76, .int (xs (i + 1).toNatClampNeg), .int (xs (i + 2).toNatClampNeg)]) (r := []) dL_law_548 rfl (Nat.le_of_ble_eq_true rfl) rfl rfl rfl (Nat.le_of_ble_eq_true rfl) ho2 rfl (lw_call rfl pr_2 hk1 (fun r2 cs2 hp2 => ?_)))
  obtain ⟨⟨x2, e2⟩, hk2, hf2⟩ := po_int hp2 rfl
  subst e2
  refine ret_int ?_
  refine go_wp rfl (wq_pop dL_law_551 rfl rfl ?_)
  refine go_wp rfl (wq_goto (t := 1540) dL_law_552 (by decide) ?_)
  refine go_wp rfl (wq_iinc (v := i + Int32.ofInt 5) (lv' := [some (.ref 1003), some (.ref 0), some (.ref 76), some (.int (i + Int32.ofInt 5))]) dL_law_1540 rfl ⟨Nat.le_of_ble_eq_true rfl, rfl⟩ rfl rfl rfl ?_)
  refine go_wp rfl (wq_goto (t := 18) dL_law_1543 (by decide) ?_)
  exact go_cut rfl ⟨rfl, rfl, hk2, rel_keep hf1 hf2 rfl rfl hR⟩
set_option maxRecDepth 100000 in
set_option maxHeartbeats 40000000 in
theorem case_11 {xs : Nat → Int32} {L : Nat} {i : Int32} {cs : ex_C} (hi1 : 0 ≤ i.toInt) (hi2 : i.toInt + 5 ≤ (L : Int)) (hL : L ≤ 2560) (hk : ab_hk ab_hd cs) (hR : rel_R cs) : ex_go (ec_xt ++ [(L, xs)]) bx_L cL_law (some .boolean) (law_I i) law_Q 60 555 [some (.ref 1003), some (.ref 0), some (.ref 76), some (.int i)] [] cs := by
  refine go_wp rfl (wq_aload_n dL_law_555 rfl rfl ?_)
  refine go_wp rfl (wq_aload_n dL_law_556 rfl rfl ?_)
  refine go_wp rfl (wq_iload_n dL_law_557 rfl rfl ?_)
  refine go_wp rfl (wq_iconst (v := 1) dL_law_558 (by decide) rfl ?_)
  refine go_wp rfl (wq_iadd (v := i + 1) dL_law_559 rfl rfl ?_)
  refine go_wp rfl (wq_ialoadX (j := 3) (v := xs (i + 1).toNatClampNeg) dL_law_560 rfl rfl (ix_k hi1 hi2 hL (by decide)) rfl rfl ?_)
  refine go_wp rfl (wq_aload_n dL_law_561 rfl rfl ?_)
  refine go_wp rfl (wq_iload_n dL_law_562 rfl rfl ?_)
  refine go_wp rfl (wq_iconst (v := 2) dL_law_563 (by decide) rfl ?_)
  refine go_wp rfl (wq_iadd (v := i + 2) dL_law_564 rfl rfl ?_)
  refine go_wp rfl (wq_ialoadX (j := 3) (v := xs (i + 2).toNatClampNeg) dL_law_565 rfl rfl (ix_k hi1 hi2 hL (by decide)) rfl rfl ?_)
  refine go_wp rfl (wq_aload_n dL_law_566 rfl rfl ?_)
  refine go_wp rfl (wq_iload_n dL_law_567 rfl rfl ?_)
  refine go_wp rfl (wq_iconst (v := 3) dL_law_568 (by decide) rfl ?_)
  refine go_wp rfl (wq_iadd (v := i + 3) dL_law_569 rfl rfl ?_)
  refine go_wp rfl (wq_ialoadX (j := 3) (v := xs (i + 3).toNatClampNeg) dL_law_570 rfl rfl (ix_k hi1 hi2 hL (by decide)) rfl rfl ?_)
  refine go_wp rfl (wq_aload_n dL_law_571 rfl rfl ?_)
  refine go_wp rfl (wq_iload_n dL_law_572 rfl rfl ?_)
  refine go_wp rfl (wq_iconst (v := 4) dL_law_573 (by decide) rfl ?_)
  refine go_wp rfl (wq_iadd (v := i + 4) dL_law_574 rfl rfl ?_)
  refine go_wp rfl (wq_ialoadX (j := 3) (v := xs (i + 4).toNatClampNeg) dL_law_575 rfl rfl (ix_k hi1 hi2 hL (by decide)) rfl rfl ?_)
  obtain ⟨fs1, ho1, -⟩ := hk.obj (a := 0) (ci := 9) rfl
  refine go_wp rfl (wq_virtual (q := 5) (ci := 9) (a := 0) (av := [.ref 0, .int (xs (i + 1).toNatClampNeg), .int (xs (i + 2).toNatClampNeg), .int (xs (i + 3).toNatClampNeg), .int (xs (i + 4).toNatClampNeg)]) (r := []) dL_law_576 rfl (Nat.le_of_ble_eq_true rfl) rfl rfl rfl (Nat.le_of_ble_eq_true rfl) ho1 rfl (lw_call rfl pr_4 hk (fun r1 cs1 hp1 => ?_)))
  obtain ⟨⟨x1, e1⟩, hk1, hf1⟩ := po_int hp1 rfl
  subst e1
  refine ret_int ?_
  refine go_wp rfl (wq_pop dL_law_579 rfl rfl ?_)
  refine go_wp rfl (wq_aload_n dL_law_580 rfl rfl ?_)
  refine go_wp rfl (wq_aload_n dL_law_581 rfl rfl ?_)
  refine go_wp rfl (wq_iload_n dL_law_582 rfl rfl ?_)
  refine go_wp rfl (wq_iconst (v := 1) dL_law_583 (by decide) rfl ?_)
  refine go_wp rfl (wq_iadd (v := i + 1) dL_law_584 rfl rfl ?_)
  refine go_wp rfl (wq_ialoadX (j := 3) (v := xs (i + 1).toNatClampNeg) dL_law_585 rfl rfl (ix_k hi1 hi2 hL (by decide)) rfl rfl ?_)
  refine go_wp rfl (wq_aload_n dL_law_586 rfl rfl ?_)
  refine go_wp rfl (wq_iload_n dL_law_587 rfl rfl ?_)
  refine go_wp rfl (wq_iconst (v := 2) dL_law_588 (by decide) rfl ?_)
  refine go_wp rfl (wq_iadd (v := i + 2) dL_law_589 rfl rfl ?_)
  refine go_wp rfl (wq_ialoadX (j := 3) (v := xs (i + 2).toNatClampNeg) dL_law_590 rfl rfl (ix_k hi1 hi2 hL (by decide)) rfl rfl ?_)
  refine go_wp rfl (wq_aload_n dL_law_591 rfl rfl ?_)
  refine go_wp rfl (wq_iload_n dL_law_592 rfl rfl ?_)
  refine go_wp rfl (wq_iconst (v := 3) dL_law_593 (by decide) rfl ?_)
  refine go_wp rfl (wq_iadd (v := i + 3) dL_law_594 rfl rfl ?_)
  refine go_wp rfl (wq_ialoadX (j := 3) (v := xs (i + 3).toNatClampNeg) dL_law_595 rfl rfl (ix_k hi1 hi2 hL (by decide)) rfl rfl ?_)
  refine go_wp rfl (wq_aload_n dL_law_596 rfl rfl ?_)
  refine go_wp rfl (wq_iload_n dL_law_597 rfl rfl ?_)
  refine go_wp rfl (wq_iconst (v := 4) dL_law_598 (by decide) rfl ?_)
  refine go_wp rfl (wq_iadd (v := i + 4) dL_law_599 rfl rfl ?_)
  refine go_wp rfl (wq_ialoadX (j := 3) (v := xs (i + 4).toNatClampNeg) dL_law_600 rfl rfl (ix_k hi1 hi2 hL (by decide)) rfl rfl ?_)
  obtain ⟨fs2, ho2, -⟩ := hk1.obj (a := 76) (ci := 10) rfl
  refine go_wp rfl (wq_virtual (q := 5) (ci := 10) (a := 76) (av := [.ref 76, .int (xs (i + 1).toNatClampNeg), .int (xs (i + 2).toNatClampNeg), .int (xs (i + 3).toNatClampNeg), .int (xs (i + 4).toNatClampNeg)]) (r := []) dL_law_601 rfl (Nat.le_of_ble_eq_true rfl) rfl rfl rfl (Nat.le_of_ble_eq_true rfl) ho2 rfl (lw_call rfl pr_4 hk1 (fun r2 cs2 hp2 => ?_)))
  obtain ⟨⟨x2, e2⟩, hk2, hf2⟩ := po_int hp2 rfl
  subst e2
  refine ret_int ?_
  refine go_wp rfl (wq_pop dL_law_604 rfl rfl ?_)
  refine go_wp rfl (wq_goto (t := 1540) dL_law_605 (by decide) ?_)
  refine go_wp rfl (wq_iinc (v := i + Int32.ofInt 5) (lv' := [some (.ref 1003), some (.ref 0), some (.ref 76), some (.int (i + Int32.ofInt 5))]) dL_law_1540 rfl ⟨Nat.le_of_ble_eq_true rfl, rfl⟩ rfl rfl rfl ?_)
  refine go_wp rfl (wq_goto (t := 18) dL_law_1543 (by decide) ?_)
  exact go_cut rfl ⟨rfl, rfl, hk2, rel_keep hf1 hf2 rfl rfl hR⟩

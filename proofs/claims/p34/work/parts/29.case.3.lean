set_option maxRecDepth 100000 in
set_option maxHeartbeats 40000000 in
theorem case_36 {xs : Nat → Int32} {L : Nat} {i : Int32} {cs : ex_C} (hi1 : 0 ≤ i.toInt) (hi2 : i.toInt + 5 ≤ (L : Int)) (hL : L ≤ 2560) (hk : ab_hk ab_hd cs) (hR : rel_R cs) : ex_go (ec_xt ++ [(L, xs)]) bx_L cL_law (some .boolean) (law_I i) law_Q 60 1270 [some (.ref 1003), some (.ref 0), some (.ref 76), some (.int i)] [] cs := by
  refine go_wp rfl (wq_aload_n dL_law_1270 rfl rfl ?_)
  refine go_wp rfl (wq_aload_n dL_law_1271 rfl rfl ?_)
  refine go_wp rfl (wq_iload_n dL_law_1272 rfl rfl ?_)
  refine go_wp rfl (wq_iconst (v := 1) dL_law_1273 (by decide) rfl ?_)
  refine go_wp rfl (wq_iadd (v := i + 1) dL_law_1274 rfl rfl ?_)
  refine go_wp rfl (wq_ialoadX (j := 3) (v := xs (i + 1).toNatClampNeg) dL_law_1275 rfl rfl (ix_k hi1 hi2 hL (by decide)) rfl rfl ?_)
  obtain ⟨fs1, ho1, -⟩ := hk.obj (a := 0) (ci := 9) rfl
  refine go_wp rfl (wq_virtual (q := 2) (ci := 9) (a := 0) (av := [.ref 0, .int (xs (i + 1).toNatClampNeg)]) (r := []) dL_law_1276 rfl (Nat.le_of_ble_eq_true rfl) rfl rfl rfl (Nat.le_of_ble_eq_true rfl) ho1 rfl (lw_call rfl pr_1 hk (fun r1 cs1 hp1 => ?_)))
  obtain ⟨⟨x1, e1⟩, hk1, hf1⟩ := po_int hp1 rfl
  subst e1
  refine ret_int ?_
  refine go_wp rfl (wq_pop dL_law_1279 rfl rfl ?_)
  refine go_wp rfl (wq_aload_n dL_law_1280 rfl rfl ?_)
  refine go_wp rfl (wq_aload_n dL_law_1281 rfl rfl ?_)
  refine go_wp rfl (wq_iload_n dL_law_1282 rfl rfl ?_)
  refine go_wp rfl (wq_iconst (v := 1) dL_law_1283 (by decide) rfl ?_)
  refine go_wp rfl (wq_iadd (v := i + 1) dL_law_1284 rfl rfl ?_)
  refine go_wp rfl (wq_ialoadX (j := 3) (v := xs (i + 1).toNatClampNeg) dL_law_1285 rfl rfl (ix_k hi1 hi2 hL (by decide)) rfl rfl ?_)
  obtain ⟨fs2, ho2, -⟩ := hk1.obj (a := 76) (ci := 10) rfl
  refine go_wp rfl (wq_virtual (q := 2) (ci := 10) (a := 76) (av := [.ref 76, .int (xs (i + 1).toNatClampNeg)]) (r := []) dL_law_1286 rfl (Nat.le_of_ble_eq_true rfl) rfl rfl rfl (Nat.le_of_ble_eq_true rfl) ho2 rfl (lw_call rfl pr_1 hk1 (fun r2 cs2 hp2 => ?_)))
  obtain ⟨⟨x2, e2⟩, hk2, hf2⟩ := po_int hp2 rfl
  subst e2
  refine ret_int ?_
  refine go_wp rfl (wq_pop dL_law_1289 rfl rfl ?_)
  refine go_wp rfl (wq_goto (t := 1540) dL_law_1290 (by decide) ?_)
  refine go_wp rfl (wq_iinc (v := i + Int32.ofInt 5) (lv' := [some (.ref 1003), some (.ref 0), some (.ref 76), some (.int (i + Int32.ofInt 5))]) dL_law_1540 rfl ⟨Nat.le_of_ble_eq_true rfl, rfl⟩ rfl rfl rfl ?_)
  refine go_wp rfl (wq_goto (t := 18) dL_law_1543 (by decide) ?_)
  exact go_cut rfl ⟨rfl, rfl, hk2, rel_keep hf1 hf2 rfl rfl hR⟩
set_option maxRecDepth 100000 in
set_option maxHeartbeats 40000000 in
theorem case_37 {xs : Nat → Int32} {L : Nat} {i : Int32} {cs : ex_C} (hi1 : 0 ≤ i.toInt) (hi2 : i.toInt + 5 ≤ (L : Int)) (hL : L ≤ 2560) (hk : ab_hk ab_hd cs) (hR : rel_R cs) : ex_go (ec_xt ++ [(L, xs)]) bx_L cL_law (some .boolean) (law_I i) law_Q 60 1293 [some (.ref 1003), some (.ref 0), some (.ref 76), some (.int i)] [] cs := by
  refine go_wp rfl (wq_aload_n dL_law_1293 rfl rfl ?_)
  refine go_wp rfl (wq_aload_n dL_law_1294 rfl rfl ?_)
  refine go_wp rfl (wq_iload_n dL_law_1295 rfl rfl ?_)
  refine go_wp rfl (wq_iconst (v := 1) dL_law_1296 (by decide) rfl ?_)
  refine go_wp rfl (wq_iadd (v := i + 1) dL_law_1297 rfl rfl ?_)
  refine go_wp rfl (wq_ialoadX (j := 3) (v := xs (i + 1).toNatClampNeg) dL_law_1298 rfl rfl (ix_k hi1 hi2 hL (by decide)) rfl rfl ?_)
  obtain ⟨fs1, ho1, -⟩ := hk.obj (a := 0) (ci := 9) rfl
  refine go_wp rfl (wq_virtual (q := 2) (ci := 9) (a := 0) (av := [.ref 0, .int (xs (i + 1).toNatClampNeg)]) (r := []) dL_law_1299 rfl (Nat.le_of_ble_eq_true rfl) rfl rfl rfl (Nat.le_of_ble_eq_true rfl) ho1 rfl (lw_call rfl pr_1 hk (fun r1 cs1 hp1 => ?_)))
  obtain ⟨⟨x1, e1⟩, hk1, hf1⟩ := po_int hp1 rfl
  subst e1
  refine ret_int ?_
  refine go_wp rfl (wq_pop dL_law_1302 rfl rfl ?_)
  refine go_wp rfl (wq_aload_n dL_law_1303 rfl rfl ?_)
  refine go_wp rfl (wq_aload_n dL_law_1304 rfl rfl ?_)
  refine go_wp rfl (wq_iload_n dL_law_1305 rfl rfl ?_)
  refine go_wp rfl (wq_iconst (v := 1) dL_law_1306 (by decide) rfl ?_)
  refine go_wp rfl (wq_iadd (v := i + 1) dL_law_1307 rfl rfl ?_)
  refine go_wp rfl (wq_ialoadX (j := 3) (v := xs (i + 1).toNatClampNeg) dL_law_1308 rfl rfl (ix_k hi1 hi2 hL (by decide)) rfl rfl ?_)
  obtain ⟨fs2, ho2, -⟩ := hk1.obj (a := 76) (ci := 10) rfl
  refine go_wp rfl (wq_virtual (q := 2) (ci := 10) (a := 76) (av := [.ref 76, .int (xs (i + 1).toNatClampNeg)]) (r := []) dL_law_1309 rfl (Nat.le_of_ble_eq_true rfl) rfl rfl rfl (Nat.le_of_ble_eq_true rfl) ho2 rfl (lw_call rfl pr_1 hk1 (fun r2 cs2 hp2 => ?_)))
  obtain ⟨⟨x2, e2⟩, hk2, hf2⟩ := po_int hp2 rfl
  subst e2
  refine ret_int ?_
  refine go_wp rfl (wq_pop dL_law_1312 rfl rfl ?_)
  refine go_wp rfl (wq_goto (t := 1540) dL_law_1313 (by decide) ?_)
  refine go_wp rfl (wq_iinc (v := i + Int32.ofInt 5) (lv' := [some (.ref 1003), some (.ref 0), some (.ref 76), some (.int (i + Int32.ofInt 5))]) dL_law_1540 rfl ⟨Nat.le_of_ble_eq_true rfl, rfl⟩ rfl rfl rfl ?_)
  refine go_wp rfl (wq_goto (t := 18) dL_law_1543 (by decide) ?_)
  exact go_cut rfl ⟨rfl, rfl, hk2, rel_keep hf1 hf2 rfl rfl hR⟩
set_option maxRecDepth 100000 in
set_option maxHeartbeats 40000000 in
theorem case_38 {xs : Nat → Int32} {L : Nat} {i : Int32} {cs : ex_C} (hi1 : 0 ≤ i.toInt) (hi2 : i.toInt + 5 ≤ (L : Int)) (hL : L ≤ 2560) (hk : ab_hk ab_hd cs) (hR : rel_R cs) : ex_go (ec_xt ++ [(L, xs)]) bx_L cL_law (some .boolean) (law_I i) law_Q 60 1316 [some (.ref 1003), some (.ref 0), some (.ref 76), some (.int i)] [] cs := by
  refine go_wp rfl (wq_aload_n dL_law_1316 rfl rfl ?_)
  refine go_wp rfl (wq_aload_n dL_law_1317 rfl rfl ?_)
  refine go_wp rfl (wq_iload_n dL_law_1318 rfl rfl ?_)
  refine go_wp rfl (wq_iconst (v := 1) dL_law_1319 (by decide) rfl ?_)
  refine go_wp rfl (wq_iadd (v := i + 1) dL_law_1320 rfl rfl ?_)
  refine go_wp rfl (wq_ialoadX (j := 3) (v := xs (i + 1).toNatClampNeg) dL_law_1321 rfl rfl (ix_k hi1 hi2 hL (by decide)) rfl rfl ?_)
  refine go_wp rfl (wq_aload_n dL_law_1322 rfl rfl ?_)
  refine go_wp rfl (wq_iload_n dL_law_1323 rfl rfl ?_)
  refine go_wp rfl (wq_iconst (v := 2) dL_law_1324 (by decide) rfl ?_)
  refine go_wp rfl (wq_iadd (v := i + 2) dL_law_1325 rfl rfl ?_)
  refine go_wp rfl (wq_ialoadX (j := 3) (v := xs (i + 2).toNatClampNeg) dL_law_1326 rfl rfl (ix_k hi1 hi2 hL (by decide)) rfl rfl ?_)
  obtain ⟨fs1, ho1, -⟩ := hk.obj (a := 0) (ci := 9) rfl
  refine go_wp rfl (wq_virtual (q := 3) (ci := 9) (a := 0) (av := [.ref 0, .int (xs (i + 1).toNatClampNeg), .int (xs (i + 2).toNatClampNeg)]) (r := []) dL_law_1327 rfl (Nat.le_of_ble_eq_true rfl) rfl rfl rfl (Nat.le_of_ble_eq_true rfl) ho1 rfl (lw_call rfl pr_2 hk (fun r1 cs1 hp1 => ?_)))
  obtain ⟨⟨x1, e1⟩, hk1, hf1⟩ := po_int hp1 rfl
  subst e1
  refine ret_int ?_
  refine go_wp rfl (wq_pop dL_law_1330 rfl rfl ?_)
  refine go_wp rfl (wq_aload_n dL_law_1331 rfl rfl ?_)
  refine go_wp rfl (wq_aload_n dL_law_1332 rfl rfl ?_)
  refine go_wp rfl (wq_iload_n dL_law_1333 rfl rfl ?_)
  refine go_wp rfl (wq_iconst (v := 1) dL_law_1334 (by decide) rfl ?_)
  refine go_wp rfl (wq_iadd (v := i + 1) dL_law_1335 rfl rfl ?_)
  refine go_wp rfl (wq_ialoadX (j := 3) (v := xs (i + 1).toNatClampNeg) dL_law_1336 rfl rfl (ix_k hi1 hi2 hL (by decide)) rfl rfl ?_)
  refine go_wp rfl (wq_aload_n dL_law_1337 rfl rfl ?_)
  refine go_wp rfl (wq_iload_n dL_law_1338 rfl rfl ?_)
  refine go_wp rfl (wq_iconst (v := 2) dL_law_1339 (by decide) rfl ?_)
  refine go_wp rfl (wq_iadd (v := i + 2) dL_law_1340 rfl rfl ?_)
  refine go_wp rfl (wq_ialoadX (j := 3) (v := xs (i + 2).toNatClampNeg) dL_law_1341 rfl rfl (ix_k hi1 hi2 hL (by decide)) rfl rfl ?_)
  obtain ⟨fs2, ho2, -⟩ := hk1.obj (a := 76) (ci := 10) rfl
  refine go_wp rfl (wq_virtual (q := 3) (ci := 10) (a := 76) (av := [.ref 76, .int (xs (i + 1).toNatClampNeg), .int (xs (i + 2).toNatClampNeg)]) (r := []) dL_law_1342 rfl (Nat.le_of_ble_eq_true rfl) rfl rfl rfl (Nat.le_of_ble_eq_true rfl) ho2 rfl (lw_call rfl pr_2 hk1 (fun r2 cs2 hp2 => ?_)))
  obtain ⟨⟨x2, e2⟩, hk2, hf2⟩ := po_int hp2 rfl
  subst e2
  refine ret_int ?_
  refine go_wp rfl (wq_pop dL_law_1345 rfl rfl ?_)
  refine go_wp rfl (wq_goto (t := 1540) dL_law_1346 (by decide) ?_)
  refine go_wp rfl (wq_iinc (v := i + Int32.ofInt 5) (lv' := [some (.ref 1003), some (.ref 0), some (.ref 76), some (.int (i + Int32.ofInt 5))]) dL_law_1540 rfl ⟨Nat.le_of_ble_eq_true rfl, rfl⟩ rfl rfl rfl ?_)
  refine go_wp rfl (wq_goto (t := 18) dL_law_1543 (by decide) ?_)
  exact go_cut rfl ⟨rfl, rfl, hk2, rel_keep hf1 hf2 rfl rfl hR⟩
set_option maxRecDepth 100000 in
set_option maxHeartbeats 40000000 in
theorem case_39 {xs : Nat → Int32} {L : Nat} {i : Int32} {cs : ex_C} (hi1 : 0 ≤ i.toInt) (hi2 : i.toInt + 5 ≤ (L : Int)) (hL : L ≤ 2560) (hk : ab_hk ab_hd cs) (hR : rel_R cs) : ex_go (ec_xt ++ [(L, xs)]) bx_L cL_law (some .boolean) (law_I i) law_Q 60 1349 [some (.ref 1003), some (.ref 0), some (.ref 76), some (.int i)] [] cs := by
  refine go_wp rfl (wq_aload_n dL_law_1349 rfl rfl ?_)
  refine go_wp rfl (wq_aload_n dL_law_1350 rfl rfl ?_)
  refine go_wp rfl (wq_iload_n dL_law_1351 rfl rfl ?_)
  refine go_wp rfl (wq_iconst (v := 1) dL_law_1352 (by decide) rfl ?_)
  refine go_wp rfl (wq_iadd (v := i + 1) dL_law_1353 rfl rfl ?_)
  refine go_wp rfl (wq_ialoadX (j := 3) (v := xs (i + 1).toNatClampNeg) dL_law_1354 rfl rfl (ix_k hi1 hi2 hL (by decide)) rfl rfl ?_)
  refine go_wp rfl (wq_aload_n dL_law_1355 rfl rfl ?_)
  refine go_wp rfl (wq_iload_n dL_law_1356 rfl rfl ?_)
  refine go_wp rfl (wq_iconst (v := 2) dL_law_1357 (by decide) rfl ?_)
  refine go_wp rfl (wq_iadd (v := i + 2) dL_law_1358 rfl rfl ?_)
  refine go_wp rfl (wq_ialoadX (j := 3) (v := xs (i + 2).toNatClampNeg) dL_law_1359 rfl rfl (ix_k hi1 hi2 hL (by decide)) rfl rfl ?_)
  obtain ⟨fs1, ho1, -⟩ := hk.obj (a := 0) (ci := 9) rfl
  refine go_wp rfl (wq_virtual (q := 3) (ci := 9) (a := 0) (av := [.ref 0, .int (xs (i + 1).toNatClampNeg), .int (xs (i + 2).toNatClampNeg)]) (r := []) dL_law_1360 rfl (Nat.le_of_ble_eq_true rfl) rfl rfl rfl (Nat.le_of_ble_eq_true rfl) ho1 rfl (lw_call rfl pr_2 hk (fun r1 cs1 hp1 => ?_)))
  obtain ⟨⟨x1, e1⟩, hk1, hf1⟩ := po_int hp1 rfl
  subst e1
  refine ret_int ?_
  refine go_wp rfl (wq_pop dL_law_1363 rfl rfl ?_)
  refine go_wp rfl (wq_aload_n dL_law_1364 rfl rfl ?_)
  refine go_wp rfl (wq_aload_n dL_law_1365 rfl rfl ?_)
  refine go_wp rfl (wq_iload_n dL_law_1366 rfl rfl ?_)
  refine go_wp rfl (wq_iconst (v := 1) dL_law_1367 (by decide) rfl ?_)
  refine go_wp rfl (wq_iadd (v := i + 1) dL_law_1368 rfl rfl ?_)
  refine go_wp rfl (wq_ialoadX (j := 3) (v := xs (i + 1).toNatClampNeg) dL_law_1369 rfl rfl (ix_k hi1 hi2 hL (by decide)) rfl rfl ?_)
  refine go_wp rfl (wq_aload_n dL_law_1370 rfl rfl ?_)
  refine go_wp rfl (wq_iload_n dL_law_1371 rfl rfl ?_)
  refine go_wp rfl (wq_iconst (v := 2) dL_law_1372 (by decide) rfl ?_)
  refine go_wp rfl (wq_iadd (v := i + 2) dL_law_1373 rfl rfl ?_)
  refine go_wp rfl (wq_ialoadX (j := 3) (v := xs (i + 2).toNatClampNeg) dL_law_1374 rfl rfl (ix_k hi1 hi2 hL (by decide)) rfl rfl ?_)
  obtain ⟨fs2, ho2, -⟩ := hk1.obj (a := 76) (ci := 10) rfl
  refine go_wp rfl (wq_virtual (q := 3) (ci := 10) (a := 76) (av := [.ref 76, .int (xs (i + 1).toNatClampNeg), .int (xs (i + 2).toNatClampNeg)]) (r := []) dL_law_1375 rfl (Nat.le_of_ble_eq_true rfl) rfl rfl rfl (Nat.le_of_ble_eq_true rfl) ho2 rfl (lw_call rfl pr_2 hk1 (fun r2 cs2 hp2 => ?_)))
  obtain ⟨⟨x2, e2⟩, hk2, hf2⟩ := po_int hp2 rfl
  subst e2
  refine ret_int ?_
  refine go_wp rfl (wq_pop dL_law_1378 rfl rfl ?_)
  refine go_wp rfl (wq_goto (t := 1540) dL_law_1379 (by decide) ?_)
  refine go_wp rfl (wq_iinc (v := i + Int32.ofInt 5) (lv' := [some (.ref 1003), some (.ref 0), some (.ref 76), some (.int (i + Int32.ofInt 5))]) dL_law_1540 rfl ⟨Nat.le_of_ble_eq_true rfl, rfl⟩ rfl rfl rfl ?_)
  refine go_wp rfl (wq_goto (t := 18) dL_law_1543 (by decide) ?_)
  exact go_cut rfl ⟨rfl, rfl, hk2, rel_keep hf1 hf2 rfl rfl hR⟩
set_option maxRecDepth 100000 in
set_option maxHeartbeats 40000000 in
theorem case_40 {xs : Nat → Int32} {L : Nat} {i : Int32} {cs : ex_C} (hi1 : 0 ≤ i.toInt) (hi2 : i.toInt + 5 ≤ (L : Int)) (hL : L ≤ 2560) (hk : ab_hk ab_hd cs) (hR : rel_R cs) : ex_go (ec_xt ++ [(L, xs)]) bx_L cL_law (some .boolean) (law_I i) law_Q 60 1382 [some (.ref 1003), some (.ref 0), some (.ref 76), some (.int i)] [] cs := by
  refine go_wp rfl (wq_aload_n dL_law_1382 rfl rfl ?_)
  refine go_wp rfl (wq_aload_n dL_law_1383 rfl rfl ?_)
  refine go_wp rfl (wq_iload_n dL_law_1384 rfl rfl ?_)
  refine go_wp rfl (wq_iconst (v := 1) dL_law_1385 (by decide) rfl ?_)
  refine go_wp rfl (wq_iadd (v := i + 1) dL_law_1386 rfl rfl ?_)
  refine go_wp rfl (wq_ialoadX (j := 3) (v := xs (i + 1).toNatClampNeg) dL_law_1387 rfl rfl (ix_k hi1 hi2 hL (by decide)) rfl rfl ?_)
  refine go_wp rfl (wq_aload_n dL_law_1388 rfl rfl ?_)
  refine go_wp rfl (wq_iload_n dL_law_1389 rfl rfl ?_)
  refine go_wp rfl (wq_iconst (v := 2) dL_law_1390 (by decide) rfl ?_)
  refine go_wp rfl (wq_iadd (v := i + 2) dL_law_1391 rfl rfl ?_)
  refine go_wp rfl (wq_ialoadX (j := 3) (v := xs (i + 2).toNatClampNeg) dL_law_1392 rfl rfl (ix_k hi1 hi2 hL (by decide)) rfl rfl ?_)
  obtain ⟨fs1, ho1, -⟩ := hk.obj (a := 0) (ci := 9) rfl
  refine go_wp rfl (wq_virtual (q := 3) (ci := 9) (a := 0) (av := [.ref 0, .int (xs (i + 1).toNatClampNeg), .int (xs (i + 2).toNatClampNeg)]) (r := []) dL_law_1393 rfl (Nat.le_of_ble_eq_true rfl) rfl rfl rfl (Nat.le_of_ble_eq_true rfl) ho1 rfl (lw_call rfl pr_2 hk (fun r1 cs1 hp1 => ?_)))
  obtain ⟨⟨x1, e1⟩, hk1, hf1⟩ := po_int hp1 rfl
  subst e1
  refine ret_int ?_
  refine go_wp rfl (wq_pop dL_law_1396 rfl rfl ?_)
  refine go_wp rfl (wq_aload_n dL_law_1397 rfl rfl ?_)
  refine go_wp rfl (wq_aload_n dL_law_1398 rfl rfl ?_)
  refine go_wp rfl (wq_iload_n dL_law_1399 rfl rfl ?_)
  refine go_wp rfl (wq_iconst (v := 1) dL_law_1400 (by decide) rfl ?_)
  refine go_wp rfl (wq_iadd (v := i + 1) dL_law_1401 rfl rfl ?_)
  refine go_wp rfl (wq_ialoadX (j := 3) (v := xs (i + 1).toNatClampNeg) dL_law_1402 rfl rfl (ix_k hi1 hi2 hL (by decide)) rfl rfl ?_)
  refine go_wp rfl (wq_aload_n dL_law_1403 rfl rfl ?_)
  refine go_wp rfl (wq_iload_n dL_law_1404 rfl rfl ?_)
  refine go_wp rfl (wq_iconst (v := 2) dL_law_1405 (by decide) rfl ?_)
  refine go_wp rfl (wq_iadd (v := i + 2) dL_law_1406 rfl rfl ?_)
  refine go_wp rfl (wq_ialoadX (j := 3) (v := xs (i + 2).toNatClampNeg) dL_law_1407 rfl rfl (ix_k hi1 hi2 hL (by decide)) rfl rfl ?_)
  obtain ⟨fs2, ho2, -⟩ := hk1.obj (a := 76) (ci := 10) rfl
  refine go_wp rfl (wq_virtual (q := 3) (ci := 10) (a := 76) (av := [.ref 76, .int (xs (i + 1).toNatClampNeg), .int (xs (i + 2).toNatClampNeg)]) (r := []) dL_law_1408 rfl (Nat.le_of_ble_eq_true rfl) rfl rfl rfl (Nat.le_of_ble_eq_true rfl) ho2 rfl (lw_call rfl pr_2 hk1 (fun r2 cs2 hp2 => ?_)))
  obtain ⟨⟨x2, e2⟩, hk2, hf2⟩ := po_int hp2 rfl
  subst e2
  refine ret_int ?_
  refine go_wp rfl (wq_pop dL_law_1411 rfl rfl ?_)
  refine go_wp rfl (wq_goto (t := 1540) dL_law_1412 (by decide) ?_)
  refine go_wp rfl (wq_iinc (v := i + Int32.ofInt 5) (lv' := [some (.ref 1003), some (.ref 0), some (.ref 76), some (.int (i + Int32.ofInt 5))]) dL_law_1540 rfl ⟨Nat.le_of_ble_eq_true rfl, rfl⟩ rfl rfl rfl ?_)
  refine go_wp rfl (wq_goto (t := 18) dL_law_1543 (by decide) ?_)
  exact go_cut rfl ⟨rfl, rfl, hk2, rel_keep hf1 hf2 rfl rfl hR⟩
set_option maxRecDepth 100000 in
set_option maxHeartbeats 40000000 in
theorem case_41 {xs : Nat → Int32} {L : Nat} {i : Int32} {cs : ex_C} (hi1 : 0 ≤ i.toInt) (hi2 : i.toInt + 5 ≤ (L : Int)) (hL : L ≤ 2560) (hk : ab_hk ab_hd cs) (hR : rel_R cs) : ex_go (ec_xt ++ [(L, xs)]) bx_L cL_law (some .boolean) (law_I i) law_Q 60 1415 [some (.ref 1003), some (.ref 0), some (.ref 76), some (.int i)] [] cs := by
  refine go_wp rfl (wq_aload_n dL_law_1415 rfl rfl ?_)
  refine go_wp rfl (wq_aload_n dL_law_1416 rfl rfl ?_)
  refine go_wp rfl (wq_iload_n dL_law_1417 rfl rfl ?_)
  refine go_wp rfl (wq_iconst (v := 1) dL_law_1418 (by decide) rfl ?_)
  refine go_wp rfl (wq_iadd (v := i + 1) dL_law_1419 rfl rfl ?_)
  refine go_wp rfl (wq_ialoadX (j := 3) (v := xs (i + 1).toNatClampNeg) dL_law_1420 rfl rfl (ix_k hi1 hi2 hL (by decide)) rfl rfl ?_)
  obtain ⟨fs1, ho1, -⟩ := hk.obj (a := 0) (ci := 9) rfl
  refine go_wp rfl (wq_virtual (q := 2) (ci := 9) (a := 0) (av := [.ref 0, .int (xs (i + 1).toNatClampNeg)]) (r := []) dL_law_1421 rfl (Nat.le_of_ble_eq_true rfl) rfl rfl rfl (Nat.le_of_ble_eq_true rfl) ho1 rfl (lw_call rfl pr_1 hk (fun r1 cs1 hp1 => ?_)))
  obtain ⟨⟨x1, e1⟩, hk1, hf1⟩ := po_int hp1 rfl
  subst e1
  refine ret_int ?_
  refine go_wp rfl (wq_pop dL_law_1424 rfl rfl ?_)
  refine go_wp rfl (wq_aload_n dL_law_1425 rfl rfl ?_)
  refine go_wp rfl (wq_aload_n dL_law_1426 rfl rfl ?_)
  refine go_wp rfl (wq_iload_n dL_law_1427 rfl rfl ?_)
  refine go_wp rfl (wq_iconst (v := 1) dL_law_1428 (by decide) rfl ?_)
  refine go_wp rfl (wq_iadd (v := i + 1) dL_law_1429 rfl rfl ?_)
  refine go_wp rfl (wq_ialoadX (j := 3) (v := xs (i + 1).toNatClampNeg) dL_law_1430 rfl rfl (ix_k hi1 hi2 hL (by decide)) rfl rfl ?_)
  obtain ⟨fs2, ho2, -⟩ := hk1.obj (a := 76) (ci := 10) rfl
  refine go_wp rfl (wq_virtual (q := 2) (ci := 10) (a := 76) (av := [.ref 76, .int (xs (i + 1).toNatClampNeg)]) (r := []) dL_law_1431 rfl (Nat.le_of_ble_eq_true rfl) rfl rfl rfl (Nat.le_of_ble_eq_true rfl) ho2 rfl (lw_call rfl pr_1 hk1 (fun r2 cs2 hp2 => ?_)))
  obtain ⟨⟨x2, e2⟩, hk2, hf2⟩ := po_int hp2 rfl
  subst e2
  refine ret_int ?_
  refine go_wp rfl (wq_pop dL_law_1434 rfl rfl ?_)
  refine go_wp rfl (wq_goto (t := 1540) dL_law_1435 (by decide) ?_)
  refine go_wp rfl (wq_iinc (v := i + Int32.ofInt 5) (lv' := [some (.ref 1003), some (.ref 0), some (.ref 76), some (.int (i + Int32.ofInt 5))]) dL_law_1540 rfl ⟨Nat.le_of_ble_eq_true rfl, rfl⟩ rfl rfl rfl ?_)
  refine go_wp rfl (wq_goto (t := 18) dL_law_1543 (by decide) ?_)
  exact go_cut rfl ⟨rfl, rfl, hk2, rel_keep hf1 hf2 rfl rfl hR⟩
set_option maxRecDepth 100000 in
set_option maxHeartbeats 40000000 in
theorem case_42 {xs : Nat → Int32} {L : Nat} {i : Int32} {cs : ex_C} (hi1 : 0 ≤ i.toInt) (hi2 : i.toInt + 5 ≤ (L : Int)) (hL : L ≤ 2560) (hk : ab_hk ab_hd cs) (hR : rel_R cs) : ex_go (ec_xt ++ [(L, xs)]) bx_L cL_law (some .boolean) (law_I i) law_Q 60 1438 [some (.ref 1003), some (.ref 0), some (.ref 76), some (.int i)] [] cs := by
  refine go_wp rfl (wq_aload_n dL_law_1438 rfl rfl ?_)
  refine go_wp rfl (wq_aload_n dL_law_1439 rfl rfl ?_)
  refine go_wp rfl (wq_iload_n dL_law_1440 rfl rfl ?_)
  refine go_wp rfl (wq_iconst (v := 1) dL_law_1441 (by decide) rfl ?_)
  refine go_wp rfl (wq_iadd (v := i + 1) dL_law_1442 rfl rfl ?_)
  refine go_wp rfl (wq_ialoadX (j := 3) (v := xs (i + 1).toNatClampNeg) dL_law_1443 rfl rfl (ix_k hi1 hi2 hL (by decide)) rfl rfl ?_)
  obtain ⟨fs1, ho1, -⟩ := hk.obj (a := 0) (ci := 9) rfl
  refine go_wp rfl (wq_virtual (q := 2) (ci := 9) (a := 0) (av := [.ref 0, .int (xs (i + 1).toNatClampNeg)]) (r := []) dL_law_1444 rfl (Nat.le_of_ble_eq_true rfl) rfl rfl rfl (Nat.le_of_ble_eq_true rfl) ho1 rfl (lw_call rfl pr_1 hk (fun r1 cs1 hp1 => ?_)))
  obtain ⟨⟨x1, e1⟩, hk1, hf1⟩ := po_int hp1 rfl
  subst e1
  refine ret_int ?_
  refine go_wp rfl (wq_pop dL_law_1447 rfl rfl ?_)
  refine go_wp rfl (wq_aload_n dL_law_1448 rfl rfl ?_)
  refine go_wp rfl (wq_aload_n dL_law_1449 rfl rfl ?_)
  refine go_wp rfl (wq_iload_n dL_law_1450 rfl rfl ?_)
  refine go_wp rfl (wq_iconst (v := 1) dL_law_1451 (by decide) rfl ?_)
  refine go_wp rfl (wq_iadd (v := i + 1) dL_law_1452 rfl rfl ?_)
  refine go_wp rfl (wq_ialoadX (j := 3) (v := xs (i + 1).toNatClampNeg) dL_law_1453 rfl rfl (ix_k hi1 hi2 hL (by decide)) rfl rfl ?_)
  obtain ⟨fs2, ho2, -⟩ := hk1.obj (a := 76) (ci := 10) rfl
  refine go_wp rfl (wq_virtual (q := 2) (ci := 10) (a := 76) (av := [.ref 76, .int (xs (i + 1).toNatClampNeg)]) (r := []) dL_law_1454 rfl (Nat.le_of_ble_eq_true rfl) rfl rfl rfl (Nat.le_of_ble_eq_true rfl) ho2 rfl (lw_call rfl pr_1 hk1 (fun r2 cs2 hp2 => ?_)))
  obtain ⟨⟨x2, e2⟩, hk2, hf2⟩ := po_int hp2 rfl
  subst e2
  refine ret_int ?_
  refine go_wp rfl (wq_pop dL_law_1457 rfl rfl ?_)
  refine go_wp rfl (wq_goto (t := 1540) dL_law_1458 (by decide) ?_)
  refine go_wp rfl (wq_iinc (v := i + Int32.ofInt 5) (lv' := [some (.ref 1003), some (.ref 0), some (.ref 76), some (.int (i + Int32.ofInt 5))]) dL_law_1540 rfl ⟨Nat.le_of_ble_eq_true rfl, rfl⟩ rfl rfl rfl ?_)
  refine go_wp rfl (wq_goto (t := 18) dL_law_1543 (by decide) ?_)
  exact go_cut rfl ⟨rfl, rfl, hk2, rel_keep hf1 hf2 rfl rfl hR⟩
set_option maxRecDepth 100000 in
set_option maxHeartbeats 40000000 in
theorem case_43 {xs : Nat → Int32} {L : Nat} {i : Int32} {cs : ex_C} (hi1 : 0 ≤ i.toInt) (hi2 : i.toInt + 5 ≤ (L : Int)) (hL : L ≤ 2560) (hk : ab_hk ab_hd cs) (hR : rel_R cs) : ex_go (ec_xt ++ [(L, xs)]) bx_L cL_law (some .boolean) (law_I i) law_Q 60 1461 [some (.ref 1003), some (.ref 0), some (.ref 76), some (.int i)] [] cs := by
  refine go_wp rfl (wq_aload_n dL_law_1461 rfl rfl ?_)
  refine go_wp rfl (wq_aload_n dL_law_1462 rfl rfl ?_)
  refine go_wp rfl (wq_iload_n dL_law_1463 rfl rfl ?_)
  refine go_wp rfl (wq_iconst (v := 1) dL_law_1464 (by decide) rfl ?_)
  refine go_wp rfl (wq_iadd (v := i + 1) dL_law_1465 rfl rfl ?_)
  refine go_wp rfl (wq_ialoadX (j := 3) (v := xs (i + 1).toNatClampNeg) dL_law_1466 rfl rfl (ix_k hi1 hi2 hL (by decide)) rfl rfl ?_)
  refine go_wp rfl (wq_aload_n dL_law_1467 rfl rfl ?_)
  refine go_wp rfl (wq_iload_n dL_law_1468 rfl rfl ?_)
  refine go_wp rfl (wq_iconst (v := 2) dL_law_1469 (by decide) rfl ?_)
  refine go_wp rfl (wq_iadd (v := i + 2) dL_law_1470 rfl rfl ?_)
  refine go_wp rfl (wq_ialoadX (j := 3) (v := xs (i + 2).toNatClampNeg) dL_law_1471 rfl rfl (ix_k hi1 hi2 hL (by decide)) rfl rfl ?_)
  obtain ⟨fs1, ho1, -⟩ := hk.obj (a := 0) (ci := 9) rfl
  refine go_wp rfl (wq_virtual (q := 3) (ci := 9) (a := 0) (av := [.ref 0, .int (xs (i + 1).toNatClampNeg), .int (xs (i + 2).toNatClampNeg)]) (r := []) dL_law_1472 rfl (Nat.le_of_ble_eq_true rfl) rfl rfl rfl (Nat.le_of_ble_eq_true rfl) ho1 rfl (lw_call rfl pr_2 hk (fun r1 cs1 hp1 => ?_)))
  obtain ⟨⟨x1, e1⟩, hk1, hf1⟩ := po_int hp1 rfl
  subst e1
  refine ret_int ?_
  refine go_wp rfl (wq_pop dL_law_1475 rfl rfl ?_)
  refine go_wp rfl (wq_aload_n dL_law_1476 rfl rfl ?_)
  refine go_wp rfl (wq_aload_n dL_law_1477 rfl rfl ?_)
  refine go_wp rfl (wq_iload_n dL_law_1478 rfl rfl ?_)
  refine go_wp rfl (wq_iconst (v := 1) dL_law_1479 (by decide) rfl ?_)
  refine go_wp rfl (wq_iadd (v := i + 1) dL_law_1480 rfl rfl ?_)
  refine go_wp rfl (wq_ialoadX (j := 3) (v := xs (i + 1).toNatClampNeg) dL_law_1481 rfl rfl (ix_k hi1 hi2 hL (by decide)) rfl rfl ?_)
  refine go_wp rfl (wq_aload_n dL_law_1482 rfl rfl ?_)
  refine go_wp rfl (wq_iload_n dL_law_1483 rfl rfl ?_)
  refine go_wp rfl (wq_iconst (v := 2) dL_law_1484 (by decide) rfl ?_)
  refine go_wp rfl (wq_iadd (v := i + 2) dL_law_1485 rfl rfl ?_)
  refine go_wp rfl (wq_ialoadX (j := 3) (v := xs (i + 2).toNatClampNeg) dL_law_1486 rfl rfl (ix_k hi1 hi2 hL (by decide)) rfl rfl ?_)
  obtain ⟨fs2, ho2, -⟩ := hk1.obj (a := 76) (ci := 10) rfl
  refine go_wp rfl (wq_virtual (q := 3) (ci := 10) (a := 76) (av := [.ref 76, .int (xs (i + 1).toNatClampNeg), .int (xs (i + 2).toNatClampNeg)]) (r := []) dL_law_1487 rfl (Nat.le_of_ble_eq_true rfl) rfl rfl rfl (Nat.le_of_ble_eq_true rfl) ho2 rfl (lw_call rfl pr_2 hk1 (fun r2 cs2 hp2 => ?_)))
  obtain ⟨⟨x2, e2⟩, hk2, hf2⟩ := po_int hp2 rfl
  subst e2
  refine ret_int ?_
  refine go_wp rfl (wq_pop dL_law_1490 rfl rfl ?_)
  refine go_wp rfl (wq_goto (t := 1540) dL_law_1491 (by decide) ?_)
  refine go_wp rfl (wq_iinc (v := i + Int32.ofInt 5) (lv' := [some (.ref 1003), some (.ref 0), some (.ref 76), some (.int (i + Int32.ofInt 5))]) dL_law_1540 rfl ⟨Nat.le_of_ble_eq_true rfl, rfl⟩ rfl rfl rfl ?_)
  refine go_wp rfl (wq_goto (t := 18) dL_law_1543 (by decide) ?_)
  exact go_cut rfl ⟨rfl, rfl, hk2, rel_keep hf1 hf2 rfl rfl hR⟩
set_option maxRecDepth 100000 in
set_option maxHeartbeats 40000000 in
theorem case_44 {xs : Nat → Int32} {L : Nat} {i : Int32} {cs : ex_C} (hi1 : 0 ≤ i.toInt) (hi2 : i.toInt + 5 ≤ (L : Int)) (hL : L ≤ 2560) (hk : ab_hk ab_hd cs) (hR : rel_R cs) : ex_go (ec_xt ++ [(L, xs)]) bx_L cL_law (some .boolean) (law_I i) law_Q 60 1494 [some (.ref 1003), some (.ref 0), some (.ref 76), some (.int i)] [] cs := by
  refine go_wp rfl (wq_aload_n dL_law_1494 rfl rfl ?_)
  refine go_wp rfl (wq_aload_n dL_law_1495 rfl rfl ?_)
  refine go_wp rfl (wq_iload_n dL_law_1496 rfl rfl ?_)
  refine go_wp rfl (wq_iconst (v := 1) dL_law_1497 (by decide) rfl ?_)
  refine go_wp rfl (wq_iadd (v := i + 1) dL_law_1498 rfl rfl ?_)
  refine go_wp rfl (wq_ialoadX (j := 3) (v := xs (i + 1).toNatClampNeg) dL_law_1499 rfl rfl (ix_k hi1 hi2 hL (by decide)) rfl rfl ?_)
  obtain ⟨fs1, ho1, -⟩ := hk.obj (a := 0) (ci := 9) rfl
  refine go_wp rfl (wq_virtual (q := 2) (ci := 9) (a := 0) (av := [.ref 0, .int (xs (i + 1).toNatClampNeg)]) (r := []) dL_law_1500 rfl (Nat.le_of_ble_eq_true rfl) rfl rfl rfl (Nat.le_of_ble_eq_true rfl) ho1 rfl (lw_call rfl pr_1 hk (fun r1 cs1 hp1 => ?_)))
  obtain ⟨⟨x1, e1⟩, hk1, hf1⟩ := po_int hp1 rfl
  subst e1
  refine ret_int ?_
  refine go_wp rfl (wq_pop dL_law_1503 rfl rfl ?_)
  refine go_wp rfl (wq_aload_n dL_law_1504 rfl rfl ?_)
  refine go_wp rfl (wq_aload_n dL_law_1505 rfl rfl ?_)
  refine go_wp rfl (wq_iload_n dL_law_1506 rfl rfl ?_)
  refine go_wp rfl (wq_iconst (v := 1) dL_law_1507 (by decide) rfl ?_)
  refine go_wp rfl (wq_iadd (v := i + 1) dL_law_1508 rfl rfl ?_)
  refine go_wp rfl (wq_ialoadX (j := 3) (v := xs (i + 1).toNatClampNeg) dL_law_1509 rfl rfl (ix_k hi1 hi2 hL (by decide)) rfl rfl ?_)
  obtain ⟨fs2, ho2, -⟩ := hk1.obj (a := 76) (ci := 10) rfl
  refine go_wp rfl (wq_virtual (q := 2) (ci := 10) (a := 76) (av := [.ref 76, .int (xs (i + 1).toNatClampNeg)]) (r := []) dL_law_1510 rfl (Nat.le_of_ble_eq_true rfl) rfl rfl rfl (Nat.le_of_ble_eq_true rfl) ho2 rfl (lw_call rfl pr_1 hk1 (fun r2 cs2 hp2 => ?_)))
  obtain ⟨⟨x2, e2⟩, hk2, hf2⟩ := po_int hp2 rfl
  subst e2
  refine ret_int ?_
  refine go_wp rfl (wq_pop dL_law_1513 rfl rfl ?_)
  refine go_wp rfl (wq_goto (t := 1540) dL_law_1514 (by decide) ?_)
  refine go_wp rfl (wq_iinc (v := i + Int32.ofInt 5) (lv' := [some (.ref 1003), some (.ref 0), some (.ref 76), some (.int (i + Int32.ofInt 5))]) dL_law_1540 rfl ⟨Nat.le_of_ble_eq_true rfl, rfl⟩ rfl rfl rfl ?_)
  refine go_wp rfl (wq_goto (t := 18) dL_law_1543 (by decide) ?_)
  exact go_cut rfl ⟨rfl, rfl, hk2, rel_keep hf1 hf2 rfl rfl hR⟩
set_option maxRecDepth 100000 in
set_option maxHeartbeats 40000000 in
theorem case_45 {xs : Nat → Int32} {L : Nat} {i : Int32} {cs : ex_C} (hi1 : 0 ≤ i.toInt) (hi2 : i.toInt + 5 ≤ (L : Int)) (hL : L ≤ 2560) (hk : ab_hk ab_hd cs) (hR : rel_R cs) : ex_go (ec_xt ++ [(L, xs)]) bx_L cL_law (some .boolean) (law_I i) law_Q 60 1517 [some (.ref 1003), some (.ref 0), some (.ref 76), some (.int i)] [] cs := by
  refine go_wp rfl (wq_aload_n dL_law_1517 rfl rfl ?_)
  refine go_wp rfl (wq_aload_n dL_law_1518 rfl rfl ?_)
  refine go_wp rfl (wq_iload_n dL_law_1519 rfl rfl ?_)
  refine go_wp rfl (wq_iconst (v := 1) dL_law_1520 (by decide) rfl ?_)
  refine go_wp rfl (wq_iadd (v := i + 1) dL_law_1521 rfl rfl ?_)
  refine go_wp rfl (wq_ialoadX (j := 3) (v := xs (i + 1).toNatClampNeg) dL_law_1522 rfl rfl (ix_k hi1 hi2 hL (by decide)) rfl rfl ?_)
  obtain ⟨fs1, ho1, -⟩ := hk.obj (a := 0) (ci := 9) rfl
  refine go_wp rfl (wq_virtual (q := 2) (ci := 9) (a := 0) (av := [.ref 0, .int (xs (i + 1).toNatClampNeg)]) (r := []) dL_law_1523 rfl (Nat.le_of_ble_eq_true rfl) rfl rfl rfl (Nat.le_of_ble_eq_true rfl) ho1 rfl (lw_call rfl pr_1 hk (fun r1 cs1 hp1 => ?_)))
  obtain ⟨⟨x1, e1⟩, hk1, hf1⟩ := po_int hp1 rfl
  subst e1
  refine ret_int ?_
  refine go_wp rfl (wq_pop dL_law_1526 rfl rfl ?_)
  refine go_wp rfl (wq_aload_n dL_law_1527 rfl rfl ?_)
  refine go_wp rfl (wq_aload_n dL_law_1528 rfl rfl ?_)
  refine go_wp rfl (wq_iload_n dL_law_1529 rfl rfl ?_)
  refine go_wp rfl (wq_iconst (v := 1) dL_law_1530 (by decide) rfl ?_)
  refine go_wp rfl (wq_iadd (v := i + 1) dL_law_1531 rfl rfl ?_)
  refine go_wp rfl (wq_ialoadX (j := 3) (v := xs (i + 1).toNatClampNeg) dL_law_1532 rfl rfl (ix_k hi1 hi2 hL (by decide)) rfl rfl ?_)
  obtain ⟨fs2, ho2, -⟩ := hk1.obj (a := 76) (ci := 10) rfl
  refine go_wp rfl (wq_virtual (q := 2) (ci := 10) (a := 76) (av := [.ref 76, .int (xs (i + 1).toNatClampNeg)]) (r := []) dL_law_1533 rfl (Nat.le_of_ble_eq_true rfl) rfl rfl rfl (Nat.le_of_ble_eq_true rfl) ho2 rfl (lw_call rfl pr_1 hk1 (fun r2 cs2 hp2 => ?_)))
  obtain ⟨⟨x2, e2⟩, hk2, hf2⟩ := po_int hp2 rfl
  subst e2
  refine ret_int ?_
  refine go_wp rfl (wq_pop dL_law_1536 rfl rfl ?_)
  refine go_wp rfl (wq_goto (t := 1540) dL_law_1537 (by decide) ?_)
  refine go_wp rfl (wq_iinc (v := i + Int32.ofInt 5) (lv' := [some (.ref 1003), some (.ref 0), some (.ref 76), some (.int (i + Int32.ofInt 5))]) dL_law_1540 rfl ⟨Nat.le_of_ble_eq_true rfl, rfl⟩ rfl rfl rfl ?_)
  refine go_wp rfl (wq_goto (t := 18) dL_law_1543 (by decide) ?_)
  exact go_cut rfl ⟨rfl, rfl, hk2, rel_keep hf1 hf2 rfl rfl hR⟩

-- CASES OF THE LAW
section LAW
variable {p : Program} {l : Launch} {e : Env} {s : State} {m : MethodId} {below : List Frame} {meth : Method} {c : Code} {g : am_Gl} {b L : Nat} {xs : Nat → Int32}
set_option maxHeartbeats 4000000 in
theorem lwc_36 (C : lCx p l e s m below meth c g b L xs) {n i : Nat} {o5 o6 : Option Value} {u : am_St} (hi : i + 6 ≤ L) (hn : n < 512) (I : LInv n u) (IH : ∀ (u3 : am_St) (o5 o6 : Option Value), LInv (n + 1) u3 → lG p l e s m below meth c g b 1726 (Lc i o5 o6, [], u3)) : lG p l e s m below meth c g b 1382 (Lc i o5 o6, [], u) := by
  obtain ⟨r, u2, u3, e6, e7, f6, f7, I3⟩ := li_st st_judge hn I
  obtain ⟨y, rfl⟩ := fi_den iv_judge e6
  refine (so_aload_n C.1 dL_law_1382 rfl) _ (Lc i o5 o6, [.ref 0], u) rfl ?_
  refine (so_cv (ci := 6) (n := 0) C.1 m_X6_judge rfl klq_288 klq_289 klq_290 klq_291 k_5 ⟨by decide, by decide, by decide +kernel⟩ (by decide) dL_law_1383) _ (Lc i o5 o6, [.int y], u2) (cv_go (as := []) (st := []) rfl (li_0 I) e6 (Nat.le_of_ble_eq_true rfl) (ln_1 f6) (wt_1 f6)) ?_
  refine (so_aload_n C.1 dL_law_1386 rfl) _ (Lc i o5 o6, [.ref 156, .int y], u2) rfl ?_
  refine (so_cv (ci := 7) (n := 0) C.1 m_X7_judge rfl klq_292 klq_293 klq_294 klq_295 k_475 ⟨by decide, by decide, by decide +kernel⟩ (by decide) dL_law_1387) _ (Lc i o5 o6, [.int y, .int y], u3) (cv_go (as := []) (st := [.int y]) rfl ((kd_1 f6).trans (li_156 I)) e7 (Nat.le_of_ble_eq_true rfl) (ln_1 f7) (wt_1 f7)) ?_
  exact so_eqi C dL_law_1390 (by decide) (IH u3 o5 o6 I3)
set_option maxHeartbeats 4000000 in
theorem lwc_37 (C : lCx p l e s m below meth c g b L xs) {n i : Nat} {o5 o6 : Option Value} {u : am_St} (hi : i + 6 ≤ L) (hn : n < 512) (I : LInv n u) (IH : ∀ (u3 : am_St) (o5 o6 : Option Value), LInv (n + 1) u3 → lG p l e s m below meth c g b 1726 (Lc i o5 o6, [], u3)) : lG p l e s m below meth c g b 1395 (Lc i o5 o6, [], u) := by
  obtain ⟨r, u2, u3, e6, e7, f6, f7, I3⟩ := li_st (st_year (x := xs (i + 1))) hn I
  obtain ⟨y, rfl⟩ := fi_den iv_year e6
  refine (so_aload_n C.1 dL_law_1395 rfl) _ (Lc i o5 o6, [.ref 0], u) rfl ?_
  refine so_arg C 1 (by decide) hi (by decide) dL_law_1396 dL_law_1397 dL_law_1399 dL_law_1400 dL_law_1401 ?_
  refine (so_cv (ci := 6) (n := 1) C.1 m_X6_year rfl klq_296 klq_297 klq_298 klq_299 k_5 ⟨by decide, by decide, by decide +kernel⟩ (by decide) dL_law_1402) _ (Lc i o5 o6, [.int y], u2) (cv_go (as := [.int (xs (i + 1))]) (st := []) rfl (li_0 I) e6 (Nat.le_of_ble_eq_true rfl) (ln_1 f6) (wt_1 f6)) ?_
  refine (so_aload_n C.1 dL_law_1405 rfl) _ (Lc i o5 o6, [.ref 156, .int y], u2) rfl ?_
  refine so_arg C 1 (by decide) hi (by decide) dL_law_1406 dL_law_1407 dL_law_1409 dL_law_1410 dL_law_1411 ?_
  refine (so_cv (ci := 7) (n := 1) C.1 m_X7_year rfl klq_300 klq_301 klq_302 klq_303 k_475 ⟨by decide, by decide, by decide +kernel⟩ (by decide) dL_law_1412) _ (Lc i o5 o6, [.int y, .int y], u3) (cv_go (as := [.int (xs (i + 1))]) (st := [.int y]) rfl ((kd_1 f6).trans (li_156 I)) e7 (Nat.le_of_ble_eq_true rfl) (ln_1 f7) (wt_1 f7)) ?_
  exact so_eqi C dL_law_1415 (by decide) (IH u3 o5 o6 I3)
set_option maxHeartbeats 4000000 in
theorem lwc_38 (C : lCx p l e s m below meth c g b L xs) {n i : Nat} {o5 o6 : Option Value} {u : am_St} (hi : i + 6 ≤ L) (hn : n < 512) (I : LInv n u) (IH : ∀ (u3 : am_St) (o5 o6 : Option Value), LInv (n + 1) u3 → lG p l e s m below meth c g b 1726 (Lc i o5 o6, [], u3)) : lG p l e s m below meth c g b 1420 (Lc i o5 o6, [], u) := by
  obtain ⟨r, u2, u3, e6, e7, f6, f7, I3⟩ := li_st (st_years (x := xs (i + 1)) (y := xs (i + 2))) hn I
  obtain ⟨y, rfl⟩ := fi_den iv_years e6
  refine (so_aload_n C.1 dL_law_1420 rfl) _ (Lc i o5 o6, [.ref 0], u) rfl ?_
  refine so_arg C 1 (by decide) hi (by decide) dL_law_1421 dL_law_1422 dL_law_1424 dL_law_1425 dL_law_1426 ?_
  refine so_arg C 2 (by decide) hi (by decide) dL_law_1427 dL_law_1428 dL_law_1430 dL_law_1431 dL_law_1432 ?_
  refine (so_cv (ci := 6) (n := 2) C.1 m_X6_years rfl klq_304 klq_305 klq_306 klq_307 k_5 ⟨by decide, by decide, by decide +kernel⟩ (by decide) dL_law_1433) _ (Lc i o5 o6, [.int y], u2) (cv_go (as := [.int (xs (i + 1)), .int (xs (i + 2))]) (st := []) rfl (li_0 I) e6 (Nat.le_of_ble_eq_true rfl) (ln_1 f6) (wt_1 f6)) ?_
  refine (so_aload_n C.1 dL_law_1436 rfl) _ (Lc i o5 o6, [.ref 156, .int y], u2) rfl ?_
  refine so_arg C 1 (by decide) hi (by decide) dL_law_1437 dL_law_1438 dL_law_1440 dL_law_1441 dL_law_1442 ?_
  refine so_arg C 2 (by decide) hi (by decide) dL_law_1443 dL_law_1444 dL_law_1446 dL_law_1447 dL_law_1448 ?_
  refine (so_cv (ci := 7) (n := 2) C.1 m_X7_years rfl klq_308 klq_309 klq_310 klq_311 k_475 ⟨by decide, by decide, by decide +kernel⟩ (by decide) dL_law_1449) _ (Lc i o5 o6, [.int y, .int y], u3) (cv_go (as := [.int (xs (i + 1)), .int (xs (i + 2))]) (st := [.int y]) rfl ((kd_1 f6).trans (li_156 I)) e7 (Nat.le_of_ble_eq_true rfl) (ln_1 f7) (wt_1 f7)) ?_
  exact so_eqi C dL_law_1452 (by decide) (IH u3 o5 o6 I3)
set_option maxHeartbeats 4000000 in
theorem lwc_39 (C : lCx p l e s m below meth c g b L xs) {n i : Nat} {o5 o6 : Option Value} {u : am_St} (hi : i + 6 ≤ L) (hn : n < 512) (I : LInv n u) (IH : ∀ (u3 : am_St) (o5 o6 : Option Value), LInv (n + 1) u3 → lG p l e s m below meth c g b 1726 (Lc i o5 o6, [], u3)) : lG p l e s m below meth c g b 1457 (Lc i o5 o6, [], u) := by
  obtain ⟨r, u2, u3, e6, e7, f6, f7, I3⟩ := li_st (st_graft (x := xs (i + 1)) (y := xs (i + 2))) hn I
  obtain ⟨y, rfl⟩ := fi_den iv_graft e6
  refine (so_aload_n C.1 dL_law_1457 rfl) _ (Lc i o5 o6, [.ref 0], u) rfl ?_
  refine so_arg C 1 (by decide) hi (by decide) dL_law_1458 dL_law_1459 dL_law_1461 dL_law_1462 dL_law_1463 ?_
  refine so_arg C 2 (by decide) hi (by decide) dL_law_1464 dL_law_1465 dL_law_1467 dL_law_1468 dL_law_1469 ?_
  refine (so_cv (ci := 6) (n := 2) C.1 m_X6_graft rfl klq_312 klq_313 klq_314 klq_315 k_5 ⟨by decide, by decide, by decide +kernel⟩ (by decide) dL_law_1470) _ (Lc i o5 o6, [.int y], u2) (cv_go (as := [.int (xs (i + 1)), .int (xs (i + 2))]) (st := []) rfl (li_0 I) e6 (Nat.le_of_ble_eq_true rfl) (ln_1 f6) (wt_1 f6)) ?_
  refine (so_aload_n C.1 dL_law_1473 rfl) _ (Lc i o5 o6, [.ref 156, .int y], u2) rfl ?_
  refine so_arg C 1 (by decide) hi (by decide) dL_law_1474 dL_law_1475 dL_law_1477 dL_law_1478 dL_law_1479 ?_
  refine so_arg C 2 (by decide) hi (by decide) dL_law_1480 dL_law_1481 dL_law_1483 dL_law_1484 dL_law_1485 ?_
  refine (so_cv (ci := 7) (n := 2) C.1 m_X7_graft rfl klq_316 klq_317 klq_318 klq_319 k_475 ⟨by decide, by decide, by decide +kernel⟩ (by decide) dL_law_1486) _ (Lc i o5 o6, [.int y, .int y], u3) (cv_go (as := [.int (xs (i + 1)), .int (xs (i + 2))]) (st := [.int y]) rfl ((kd_1 f6).trans (li_156 I)) e7 (Nat.le_of_ble_eq_true rfl) (ln_1 f7) (wt_1 f7)) ?_
  exact so_eqi C dL_law_1489 (by decide) (IH u3 o5 o6 I3)
set_option maxHeartbeats 4000000 in
theorem lwc_40 (C : lCx p l e s m below meth c g b L xs) {n i : Nat} {o5 o6 : Option Value} {u : am_St} (hi : i + 6 ≤ L) (hn : n < 512) (I : LInv n u) (IH : ∀ (u3 : am_St) (o5 o6 : Option Value), LInv (n + 1) u3 → lG p l e s m below meth c g b 1726 (Lc i o5 o6, [], u3)) : lG p l e s m below meth c g b 1494 (Lc i o5 o6, [], u) := by
  obtain ⟨r, u2, u3, e6, e7, f6, f7, I3⟩ := li_st (st_nourish (x := xs (i + 1)) (y := xs (i + 2))) hn I
  obtain ⟨y, rfl⟩ := fi_den iv_nourish e6
  refine (so_aload_n C.1 dL_law_1494 rfl) _ (Lc i o5 o6, [.ref 0], u) rfl ?_
  refine so_arg C 1 (by decide) hi (by decide) dL_law_1495 dL_law_1496 dL_law_1498 dL_law_1499 dL_law_1500 ?_
  refine so_arg C 2 (by decide) hi (by decide) dL_law_1501 dL_law_1502 dL_law_1504 dL_law_1505 dL_law_1506 ?_
  refine (so_cv (ci := 6) (n := 2) C.1 m_X6_nourish rfl klq_320 klq_321 klq_322 klq_323 k_5 ⟨by decide, by decide, by decide +kernel⟩ (by decide) dL_law_1507) _ (Lc i o5 o6, [.int y], u2) (cv_go (as := [.int (xs (i + 1)), .int (xs (i + 2))]) (st := []) rfl (li_0 I) e6 (Nat.le_of_ble_eq_true rfl) (ln_1 f6) (wt_1 f6)) ?_
  refine (so_aload_n C.1 dL_law_1510 rfl) _ (Lc i o5 o6, [.ref 156, .int y], u2) rfl ?_
  refine so_arg C 1 (by decide) hi (by decide) dL_law_1511 dL_law_1512 dL_law_1514 dL_law_1515 dL_law_1516 ?_
  refine so_arg C 2 (by decide) hi (by decide) dL_law_1517 dL_law_1518 dL_law_1520 dL_law_1521 dL_law_1522 ?_
  refine (so_cv (ci := 7) (n := 2) C.1 m_X7_nourish rfl klq_324 klq_325 klq_326 klq_327 k_475 ⟨by decide, by decide, by decide +kernel⟩ (by decide) dL_law_1523) _ (Lc i o5 o6, [.int y, .int y], u3) (cv_go (as := [.int (xs (i + 1)), .int (xs (i + 2))]) (st := [.int y]) rfl ((kd_1 f6).trans (li_156 I)) e7 (Nat.le_of_ble_eq_true rfl) (ln_1 f7) (wt_1 f7)) ?_
  exact so_eqi C dL_law_1526 (by decide) (IH u3 o5 o6 I3)
set_option maxHeartbeats 4000000 in
theorem lwc_41 (C : lCx p l e s m below meth c g b L xs) {n i : Nat} {o5 o6 : Option Value} {u : am_St} (hi : i + 6 ≤ L) (hn : n < 512) (I : LInv n u) (IH : ∀ (u3 : am_St) (o5 o6 : Option Value), LInv (n + 1) u3 → lG p l e s m below meth c g b 1726 (Lc i o5 o6, [], u3)) : lG p l e s m below meth c g b 1531 (Lc i o5 o6, [], u) := by
  obtain ⟨r, u2, u3, e6, e7, f6, f7, I3⟩ := li_st (st_cut (x := xs (i + 1)) (y := xs (i + 2))) hn I
  obtain ⟨y, rfl⟩ := fi_den iv_cut e6
  refine (so_aload_n C.1 dL_law_1531 rfl) _ (Lc i o5 o6, [.ref 0], u) rfl ?_
  refine so_arg C 1 (by decide) hi (by decide) dL_law_1532 dL_law_1533 dL_law_1535 dL_law_1536 dL_law_1537 ?_
  refine so_arg C 2 (by decide) hi (by decide) dL_law_1538 dL_law_1539 dL_law_1541 dL_law_1542 dL_law_1543 ?_
  refine (so_cv (ci := 6) (n := 2) C.1 m_X6_cut rfl klq_328 klq_329 klq_330 klq_331 k_5 ⟨by decide, by decide, by decide +kernel⟩ (by decide) dL_law_1544) _ (Lc i o5 o6, [.int y], u2) (cv_go (as := [.int (xs (i + 1)), .int (xs (i + 2))]) (st := []) rfl (li_0 I) e6 (Nat.le_of_ble_eq_true rfl) (ln_1 f6) (wt_1 f6)) ?_
  refine (so_aload_n C.1 dL_law_1547 rfl) _ (Lc i o5 o6, [.ref 156, .int y], u2) rfl ?_
  refine so_arg C 1 (by decide) hi (by decide) dL_law_1548 dL_law_1549 dL_law_1551 dL_law_1552 dL_law_1553 ?_
  refine so_arg C 2 (by decide) hi (by decide) dL_law_1554 dL_law_1555 dL_law_1557 dL_law_1558 dL_law_1559 ?_
  refine (so_cv (ci := 7) (n := 2) C.1 m_X7_cut rfl klq_332 klq_333 klq_334 klq_335 k_475 ⟨by decide, by decide, by decide +kernel⟩ (by decide) dL_law_1560) _ (Lc i o5 o6, [.int y, .int y], u3) (cv_go (as := [.int (xs (i + 1)), .int (xs (i + 2))]) (st := [.int y]) rfl ((kd_1 f6).trans (li_156 I)) e7 (Nat.le_of_ble_eq_true rfl) (ln_1 f7) (wt_1 f7)) ?_
  exact so_eqi C dL_law_1563 (by decide) (IH u3 o5 o6 I3)
set_option maxHeartbeats 4000000 in
theorem lwc_42 (C : lCx p l e s m below meth c g b L xs) {n i : Nat} {o5 o6 : Option Value} {u : am_St} (hi : i + 6 ≤ L) (hn : n < 512) (I : LInv n u) (IH : ∀ (u3 : am_St) (o5 o6 : Option Value), LInv (n + 1) u3 → lG p l e s m below meth c g b 1726 (Lc i o5 o6, [], u3)) : lG p l e s m below meth c g b 1568 (Lc i o5 o6, [], u) := by
  obtain ⟨r, u2, u3, e6, e7, f6, f7, I3⟩ := li_st st_season hn I
  obtain ⟨y, rfl⟩ := fi_den iv_season e6
  refine (so_aload_n C.1 dL_law_1568 rfl) _ (Lc i o5 o6, [.ref 0], u) rfl ?_
  refine (so_cv (ci := 6) (n := 0) C.1 m_X6_season rfl klq_336 klq_337 klq_338 klq_339 k_5 ⟨by decide, by decide, by decide +kernel⟩ (by decide) dL_law_1569) _ (Lc i o5 o6, [.int y], u2) (cv_go (as := []) (st := []) rfl (li_0 I) e6 (Nat.le_of_ble_eq_true rfl) (ln_1 f6) (wt_1 f6)) ?_
  refine (so_aload_n C.1 dL_law_1572 rfl) _ (Lc i o5 o6, [.ref 156, .int y], u2) rfl ?_
  refine (so_cv (ci := 7) (n := 0) C.1 m_X7_season rfl klq_340 klq_341 klq_342 klq_343 k_475 ⟨by decide, by decide, by decide +kernel⟩ (by decide) dL_law_1573) _ (Lc i o5 o6, [.int y, .int y], u3) (cv_go (as := []) (st := [.int y]) rfl ((kd_1 f6).trans (li_156 I)) e7 (Nat.le_of_ble_eq_true rfl) (ln_1 f7) (wt_1 f7)) ?_
  exact so_eqi C dL_law_1576 (by decide) (IH u3 o5 o6 I3)
set_option maxHeartbeats 4000000 in
theorem lwc_43 (C : lCx p l e s m below meth c g b L xs) {n i : Nat} {o5 o6 : Option Value} {u : am_St} (hi : i + 6 ≤ L) (hn : n < 512) (I : LInv n u) (IH : ∀ (u3 : am_St) (o5 o6 : Option Value), LInv (n + 1) u3 → lG p l e s m below meth c g b 1726 (Lc i o5 o6, [], u3)) : lG p l e s m below meth c g b 1581 (Lc i o5 o6, [], u) := by
  obtain ⟨r, u2, u3, e6, e7, f6, f7, I3⟩ := li_st st_undo hn I
  obtain ⟨y, rfl⟩ := fi_den iv_undo e6
  refine (so_aload_n C.1 dL_law_1581 rfl) _ (Lc i o5 o6, [.ref 0], u) rfl ?_
  refine (so_cv (ci := 6) (n := 0) C.1 m_X6_undo rfl klq_344 klq_345 klq_346 klq_347 k_5 ⟨by decide, by decide, by decide +kernel⟩ (by decide) dL_law_1582) _ (Lc i o5 o6, [.int y], u2) (cv_go (as := []) (st := []) rfl (li_0 I) e6 (Nat.le_of_ble_eq_true rfl) (ln_1 f6) (wt_1 f6)) ?_
  refine (so_aload_n C.1 dL_law_1585 rfl) _ (Lc i o5 o6, [.ref 156, .int y], u2) rfl ?_
  refine (so_cv (ci := 7) (n := 0) C.1 m_X7_undo rfl klq_348 klq_349 klq_350 klq_351 k_475 ⟨by decide, by decide, by decide +kernel⟩ (by decide) dL_law_1586) _ (Lc i o5 o6, [.int y, .int y], u3) (cv_go (as := []) (st := [.int y]) rfl ((kd_1 f6).trans (li_156 I)) e7 (Nat.le_of_ble_eq_true rfl) (ln_1 f7) (wt_1 f7)) ?_
  exact so_eqi C dL_law_1589 (by decide) (IH u3 o5 o6 I3)
set_option maxHeartbeats 4000000 in
theorem lwc_44 (C : lCx p l e s m below meth c g b L xs) {n i : Nat} {o5 o6 : Option Value} {u : am_St} (hi : i + 6 ≤ L) (hn : n < 512) (I : LInv n u) (IH : ∀ (u3 : am_St) (o5 o6 : Option Value), LInv (n + 1) u3 → lG p l e s m below meth c g b 1726 (Lc i o5 o6, [], u3)) : lG p l e s m below meth c g b 1594 (Lc i o5 o6, [], u) := by
  obtain ⟨r, u2, u3, e6, e7, f6, f7, I3⟩ := li_st st_image hn I
  obtain ⟨y, rfl⟩ := fi_den iv_image e6
  refine (so_aload_n C.1 dL_law_1594 rfl) _ (Lc i o5 o6, [.ref 0], u) rfl ?_
  refine (so_cv (ci := 6) (n := 0) C.1 m_X6_image rfl klq_352 klq_353 klq_354 klq_355 k_5 ⟨by decide, by decide, by decide +kernel⟩ (by decide) dL_law_1595) _ (Lc i o5 o6, [.int y], u2) (cv_go (as := []) (st := []) rfl (li_0 I) e6 (Nat.le_of_ble_eq_true rfl) (ln_1 f6) (wt_1 f6)) ?_
  refine (so_aload_n C.1 dL_law_1598 rfl) _ (Lc i o5 o6, [.ref 156, .int y], u2) rfl ?_
  refine (so_cv (ci := 7) (n := 0) C.1 m_X7_image rfl klq_356 klq_357 klq_358 klq_359 k_475 ⟨by decide, by decide, by decide +kernel⟩ (by decide) dL_law_1599) _ (Lc i o5 o6, [.int y, .int y], u3) (cv_go (as := []) (st := [.int y]) rfl ((kd_1 f6).trans (li_156 I)) e7 (Nat.le_of_ble_eq_true rfl) (ln_1 f7) (wt_1 f7)) ?_
  exact so_eqi C dL_law_1602 (by decide) (IH u3 o5 o6 I3)
set_option maxHeartbeats 4000000 in
theorem lwc_45 (C : lCx p l e s m below meth c g b L xs) {n i : Nat} {o5 o6 : Option Value} {u : am_St} (hi : i + 6 ≤ L) (hn : n < 512) (I : LInv n u) (IH : ∀ (u3 : am_St) (o5 o6 : Option Value), LInv (n + 1) u3 → lG p l e s m below meth c g b 1726 (Lc i o5 o6, [], u3)) : lG p l e s m below meth c g b 1607 (Lc i o5 o6, [], u) := by
  obtain ⟨r, u2, u3, e6, e7, f6, f7, I3⟩ := li_st (st_back (x := xs (i + 1))) hn I
  obtain ⟨y, rfl⟩ := fi_den iv_back e6
  refine (so_aload_n C.1 dL_law_1607 rfl) _ (Lc i o5 o6, [.ref 0], u) rfl ?_
  refine so_arg C 1 (by decide) hi (by decide) dL_law_1608 dL_law_1609 dL_law_1611 dL_law_1612 dL_law_1613 ?_
  refine (so_cv (ci := 6) (n := 1) C.1 m_X6_back rfl klq_360 klq_361 klq_362 klq_363 k_5 ⟨by decide, by decide, by decide +kernel⟩ (by decide) dL_law_1614) _ (Lc i o5 o6, [.int y], u2) (cv_go (as := [.int (xs (i + 1))]) (st := []) rfl (li_0 I) e6 (Nat.le_of_ble_eq_true rfl) (ln_1 f6) (wt_1 f6)) ?_
  refine (so_aload_n C.1 dL_law_1617 rfl) _ (Lc i o5 o6, [.ref 156, .int y], u2) rfl ?_
  refine so_arg C 1 (by decide) hi (by decide) dL_law_1618 dL_law_1619 dL_law_1621 dL_law_1622 dL_law_1623 ?_
  refine (so_cv (ci := 7) (n := 1) C.1 m_X7_back rfl klq_364 klq_365 klq_366 klq_367 k_475 ⟨by decide, by decide, by decide +kernel⟩ (by decide) dL_law_1624) _ (Lc i o5 o6, [.int y, .int y], u3) (cv_go (as := [.int (xs (i + 1))]) (st := [.int y]) rfl ((kd_1 f6).trans (li_156 I)) e7 (Nat.le_of_ble_eq_true rfl) (ln_1 f7) (wt_1 f7)) ?_
  exact so_eqi C dL_law_1627 (by decide) (IH u3 o5 o6 I3)
set_option maxHeartbeats 4000000 in
theorem lwc_47 (C : lCx p l e s m below meth c g b L xs) {n i : Nat} {o5 o6 : Option Value} {u : am_St} (hi : i + 6 ≤ L) (hn : n < 512) (I : LInv n u) (IH : ∀ (u3 : am_St) (o5 o6 : Option Value), LInv (n + 1) u3 → lG p l e s m below meth c g b 1726 (Lc i o5 o6, [], u3)) : lG p l e s m below meth c g b 1688 (Lc i o5 o6, [], u) := by
  obtain ⟨r, u2, u3, e6, e7, f6, f7, I3⟩ := li_st (st_size (x := xs (i + 1))) hn I
  obtain ⟨y, rfl⟩ := fi_den iv_size e6
  refine (so_aload_n C.1 dL_law_1688 rfl) _ (Lc i o5 o6, [.ref 0], u) rfl ?_
  refine so_arg C 1 (by decide) hi (by decide) dL_law_1689 dL_law_1690 dL_law_1692 dL_law_1693 dL_law_1694 ?_
  refine (so_cv (ci := 6) (n := 1) C.1 m_X6_size rfl klq_368 klq_369 klq_370 klq_371 k_5 ⟨by decide, by decide, by decide +kernel⟩ (by decide) dL_law_1695) _ (Lc i o5 o6, [.int y], u2) (cv_go (as := [.int (xs (i + 1))]) (st := []) rfl (li_0 I) e6 (Nat.le_of_ble_eq_true rfl) (ln_1 f6) (wt_1 f6)) ?_
  refine (so_aload_n C.1 dL_law_1698 rfl) _ (Lc i o5 o6, [.ref 156, .int y], u2) rfl ?_
  refine so_arg C 1 (by decide) hi (by decide) dL_law_1699 dL_law_1700 dL_law_1702 dL_law_1703 dL_law_1704 ?_
  refine (so_cv (ci := 7) (n := 1) C.1 m_X7_size rfl klq_372 klq_373 klq_374 klq_375 k_475 ⟨by decide, by decide, by decide +kernel⟩ (by decide) dL_law_1705) _ (Lc i o5 o6, [.int y, .int y], u3) (cv_go (as := [.int (xs (i + 1))]) (st := [.int y]) rfl ((kd_1 f6).trans (li_156 I)) e7 (Nat.le_of_ble_eq_true rfl) (ln_1 f7) (wt_1 f7)) ?_
  exact so_eqi C dL_law_1708 (by decide) (IH u3 o5 o6 I3)
set_option maxHeartbeats 4000000 in
theorem lwc_48 (C : lCx p l e s m below meth c g b L xs) {n i : Nat} {o5 o6 : Option Value} {u : am_St} (hi : i + 6 ≤ L) (hn : n < 512) (I : LInv n u) (IH : ∀ (u3 : am_St) (o5 o6 : Option Value), LInv (n + 1) u3 → lG p l e s m below meth c g b 1726 (Lc i o5 o6, [], u3)) : lG p l e s m below meth c g b 1713 (Lc i o5 o6, [], u) := by
  obtain ⟨r, u2, u3, e6, e7, f6, f7, I3⟩ := li_st st_trouble hn I
  obtain ⟨y, rfl⟩ := fi_den iv_trouble e6
  refine (so_aload_n C.1 dL_law_1713 rfl) _ (Lc i o5 o6, [.ref 0], u) rfl ?_
  refine (so_cv (ci := 6) (n := 0) C.1 m_X6_trouble rfl klq_376 klq_377 klq_378 klq_379 k_5 ⟨by decide, by decide, by decide +kernel⟩ (by decide) dL_law_1714) _ (Lc i o5 o6, [.int y], u2) (cv_go (as := []) (st := []) rfl (li_0 I) e6 (Nat.le_of_ble_eq_true rfl) (ln_1 f6) (wt_1 f6)) ?_
  refine (so_aload_n C.1 dL_law_1717 rfl) _ (Lc i o5 o6, [.ref 156, .int y], u2) rfl ?_
  refine (so_cv (ci := 7) (n := 0) C.1 m_X7_trouble rfl klq_380 klq_381 klq_382 klq_383 k_475 ⟨by decide, by decide, by decide +kernel⟩ (by decide) dL_law_1718) _ (Lc i o5 o6, [.int y, .int y], u3) (cv_go (as := []) (st := [.int y]) rfl ((kd_1 f6).trans (li_156 I)) e7 (Nat.le_of_ble_eq_true rfl) (ln_1 f7) (wt_1 f7)) ?_
  exact so_eqi C dL_law_1721 (by decide) (IH u3 o5 o6 I3)
end LAW

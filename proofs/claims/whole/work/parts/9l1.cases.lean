-- CASES OF THE LAW
section LAW
variable {p : Program} {l : Launch} {e : Env} {s : State} {m : MethodId} {below : List Frame} {meth : Method} {c : Code} {g : am_Gl} {b L : Nat} {xs : Nat → Int32}
set_option maxHeartbeats 4000000 in
theorem lwc_0 (C : lCx p l e s m below meth c g b L xs) {n i : Nat} {o5 o6 : Option Value} {u : am_St} (hi : i + 6 ≤ L) (hn : n < 512) (I : LInv n u) (IH : ∀ (u3 : am_St) (o5 o6 : Option Value), LInv (n + 1) u3 → lG p l e s m below meth c g b 1726 (Lc i o5 o6, [], u3)) : lG p l e s m below meth c g b 252 (Lc i o5 o6, [], u) := by
  obtain ⟨r, u2, u3, e6, e7, f6, f7, I3⟩ := li_st (st_feed (x0 := xs (i + 1)) (x1 := xs (i + 2)) (x2 := xs (i + 3)) (x3 := xs (i + 4)) (x4 := xs (i + 5))) hn I
  obtain ⟨y, rfl⟩ := fi_den iv_feed e6
  refine (so_aload_n C.1 dL_law_252 rfl) _ (Lc i o5 o6, [.ref 0], u) rfl ?_
  refine so_arg C 1 (by decide) hi (by decide) dL_law_253 dL_law_254 dL_law_256 dL_law_257 dL_law_258 ?_
  refine so_arg C 2 (by decide) hi (by decide) dL_law_259 dL_law_260 dL_law_262 dL_law_263 dL_law_264 ?_
  refine so_arg C 3 (by decide) hi (by decide) dL_law_265 dL_law_266 dL_law_268 dL_law_269 dL_law_270 ?_
  refine so_arg C 4 (by decide) hi (by decide) dL_law_271 dL_law_272 dL_law_274 dL_law_275 dL_law_276 ?_
  refine so_arg C 5 (by decide) hi (by decide) dL_law_277 dL_law_278 dL_law_280 dL_law_281 dL_law_282 ?_
  refine (so_cv (ci := 6) (n := 5) C.1 m_X6_feed rfl klq_0 klq_1 klq_2 klq_3 k_5 ⟨by decide, by decide, by decide +kernel⟩ (by decide) dL_law_283) _ (Lc i o5 o6, [.int y], u2) (cv_go (as := [.int (xs (i + 1)), .int (xs (i + 2)), .int (xs (i + 3)), .int (xs (i + 4)), .int (xs (i + 5))]) (st := []) rfl (li_0 I) e6 (Nat.le_of_ble_eq_true rfl) (ln_1 f6) (wt_1 f6)) ?_
  refine (so_aload_n C.1 dL_law_286 rfl) _ (Lc i o5 o6, [.ref 156, .int y], u2) rfl ?_
  refine so_arg C 1 (by decide) hi (by decide) dL_law_287 dL_law_288 dL_law_290 dL_law_291 dL_law_292 ?_
  refine so_arg C 2 (by decide) hi (by decide) dL_law_293 dL_law_294 dL_law_296 dL_law_297 dL_law_298 ?_
  refine so_arg C 3 (by decide) hi (by decide) dL_law_299 dL_law_300 dL_law_302 dL_law_303 dL_law_304 ?_
  refine so_arg C 4 (by decide) hi (by decide) dL_law_305 dL_law_306 dL_law_308 dL_law_309 dL_law_310 ?_
  refine so_arg C 5 (by decide) hi (by decide) dL_law_311 dL_law_312 dL_law_314 dL_law_315 dL_law_316 ?_
  refine (so_cv (ci := 7) (n := 5) C.1 m_X7_feed rfl klq_4 klq_5 klq_6 klq_7 k_475 ⟨by decide, by decide, by decide +kernel⟩ (by decide) dL_law_317) _ (Lc i o5 o6, [.int y, .int y], u3) (cv_go (as := [.int (xs (i + 1)), .int (xs (i + 2)), .int (xs (i + 3)), .int (xs (i + 4)), .int (xs (i + 5))]) (st := [.int y]) rfl ((kd_1 f6).trans (li_156 I)) e7 (Nat.le_of_ble_eq_true rfl) (ln_1 f7) (wt_1 f7)) ?_
  exact so_eqi C dL_law_320 (by decide) (IH u3 o5 o6 I3)
set_option maxHeartbeats 4000000 in
theorem lwc_1 (C : lCx p l e s m below meth c g b L xs) {n i : Nat} {o5 o6 : Option Value} {u : am_St} (hi : i + 6 ≤ L) (hn : n < 512) (I : LInv n u) (IH : ∀ (u3 : am_St) (o5 o6 : Option Value), LInv (n + 1) u3 → lG p l e s m below meth c g b 1726 (Lc i o5 o6, [], u3)) : lG p l e s m below meth c g b 325 (Lc i o5 o6, [], u) := by
  obtain ⟨r, u2, u3, e6, e7, f6, f7, I3⟩ := li_st (st_valley (x := xs (i + 1))) hn I
  obtain ⟨y, rfl⟩ := fi_den iv_valley e6
  refine (so_aload_n C.1 dL_law_325 rfl) _ (Lc i o5 o6, [.ref 0], u) rfl ?_
  refine so_arg C 1 (by decide) hi (by decide) dL_law_326 dL_law_327 dL_law_329 dL_law_330 dL_law_331 ?_
  refine (so_cv (ci := 6) (n := 1) C.1 m_X6_valley rfl klq_8 klq_9 klq_10 klq_11 k_5 ⟨by decide, by decide, by decide +kernel⟩ (by decide) dL_law_332) _ (Lc i o5 o6, [.int y], u2) (cv_go (as := [.int (xs (i + 1))]) (st := []) rfl (li_0 I) e6 (Nat.le_of_ble_eq_true rfl) (ln_1 f6) (wt_1 f6)) ?_
  refine (so_aload_n C.1 dL_law_335 rfl) _ (Lc i o5 o6, [.ref 156, .int y], u2) rfl ?_
  refine so_arg C 1 (by decide) hi (by decide) dL_law_336 dL_law_337 dL_law_339 dL_law_340 dL_law_341 ?_
  refine (so_cv (ci := 7) (n := 1) C.1 m_X7_valley rfl klq_12 klq_13 klq_14 klq_15 k_475 ⟨by decide, by decide, by decide +kernel⟩ (by decide) dL_law_342) _ (Lc i o5 o6, [.int y, .int y], u3) (cv_go (as := [.int (xs (i + 1))]) (st := [.int y]) rfl ((kd_1 f6).trans (li_156 I)) e7 (Nat.le_of_ble_eq_true rfl) (ln_1 f7) (wt_1 f7)) ?_
  exact so_eqi C dL_law_345 (by decide) (IH u3 o5 o6 I3)
set_option maxHeartbeats 4000000 in
theorem lwc_2 (C : lCx p l e s m below meth c g b L xs) {n i : Nat} {o5 o6 : Option Value} {u : am_St} (hi : i + 6 ≤ L) (hn : n < 512) (I : LInv n u) (IH : ∀ (u3 : am_St) (o5 o6 : Option Value), LInv (n + 1) u3 → lG p l e s m below meth c g b 1726 (Lc i o5 o6, [], u3)) : lG p l e s m below meth c g b 350 (Lc i o5 o6, [], u) := by
  obtain ⟨r, u2, u3, e6, e7, f6, f7, I3⟩ := li_st st_fault hn I
  obtain ⟨y, rfl⟩ := fi_den iv_fault e6
  refine (so_aload_n C.1 dL_law_350 rfl) _ (Lc i o5 o6, [.ref 0], u) rfl ?_
  refine (so_cv (ci := 6) (n := 0) C.1 m_X6_fault rfl klq_16 klq_17 klq_18 klq_19 k_5 ⟨by decide, by decide, by decide +kernel⟩ (by decide) dL_law_351) _ (Lc i o5 o6, [.int y], u2) (cv_go (as := []) (st := []) rfl (li_0 I) e6 (Nat.le_of_ble_eq_true rfl) (ln_1 f6) (wt_1 f6)) ?_
  refine (so_aload_n C.1 dL_law_354 rfl) _ (Lc i o5 o6, [.ref 156, .int y], u2) rfl ?_
  refine (so_cv (ci := 7) (n := 0) C.1 m_X7_fault rfl klq_20 klq_21 klq_22 klq_23 k_475 ⟨by decide, by decide, by decide +kernel⟩ (by decide) dL_law_355) _ (Lc i o5 o6, [.int y, .int y], u3) (cv_go (as := []) (st := [.int y]) rfl ((kd_1 f6).trans (li_156 I)) e7 (Nat.le_of_ble_eq_true rfl) (ln_1 f7) (wt_1 f7)) ?_
  exact so_eqi C dL_law_358 (by decide) (IH u3 o5 o6 I3)
set_option maxHeartbeats 4000000 in
theorem lwc_3 (C : lCx p l e s m below meth c g b L xs) {n i : Nat} {o5 o6 : Option Value} {u : am_St} (hi : i + 6 ≤ L) (hn : n < 512) (I : LInv n u) (IH : ∀ (u3 : am_St) (o5 o6 : Option Value), LInv (n + 1) u3 → lG p l e s m below meth c g b 1726 (Lc i o5 o6, [], u3)) : lG p l e s m below meth c g b 363 (Lc i o5 o6, [], u) := by
  obtain ⟨r, u2, u3, e6, e7, f6, f7, I3⟩ := li_st st_where hn I
  obtain ⟨y, rfl⟩ := fi_den iv_where e6
  refine (so_aload_n C.1 dL_law_363 rfl) _ (Lc i o5 o6, [.ref 0], u) rfl ?_
  refine (so_cv (ci := 6) (n := 0) C.1 m_X6_where rfl klq_24 klq_25 klq_26 klq_27 k_5 ⟨by decide, by decide, by decide +kernel⟩ (by decide) dL_law_364) _ (Lc i o5 o6, [.int y], u2) (cv_go (as := []) (st := []) rfl (li_0 I) e6 (Nat.le_of_ble_eq_true rfl) (ln_1 f6) (wt_1 f6)) ?_
  refine (so_aload_n C.1 dL_law_367 rfl) _ (Lc i o5 o6, [.ref 156, .int y], u2) rfl ?_
  refine (so_cv (ci := 7) (n := 0) C.1 m_X7_where rfl klq_28 klq_29 klq_30 klq_31 k_475 ⟨by decide, by decide, by decide +kernel⟩ (by decide) dL_law_368) _ (Lc i o5 o6, [.int y, .int y], u3) (cv_go (as := []) (st := [.int y]) rfl ((kd_1 f6).trans (li_156 I)) e7 (Nat.le_of_ble_eq_true rfl) (ln_1 f7) (wt_1 f7)) ?_
  exact so_eqi C dL_law_371 (by decide) (IH u3 o5 o6 I3)
set_option maxHeartbeats 4000000 in
theorem lwc_4 (C : lCx p l e s m below meth c g b L xs) {n i : Nat} {o5 o6 : Option Value} {u : am_St} (hi : i + 6 ≤ L) (hn : n < 512) (I : LInv n u) (IH : ∀ (u3 : am_St) (o5 o6 : Option Value), LInv (n + 1) u3 → lG p l e s m below meth c g b 1726 (Lc i o5 o6, [], u3)) : lG p l e s m below meth c g b 376 (Lc i o5 o6, [], u) := by
  obtain ⟨r, u2, u3, e6, e7, f6, f7, I3⟩ := li_st (st_quarrel (x := xs (i + 1)) (y := xs (i + 2))) hn I
  obtain ⟨y, rfl⟩ := fi_den iv_quarrel e6
  refine (so_aload_n C.1 dL_law_376 rfl) _ (Lc i o5 o6, [.ref 0], u) rfl ?_
  refine so_arg C 1 (by decide) hi (by decide) dL_law_377 dL_law_378 dL_law_380 dL_law_381 dL_law_382 ?_
  refine so_arg C 2 (by decide) hi (by decide) dL_law_383 dL_law_384 dL_law_386 dL_law_387 dL_law_388 ?_
  refine (so_cv (ci := 6) (n := 2) C.1 m_X6_quarrel rfl klq_32 klq_33 klq_34 klq_35 k_5 ⟨by decide, by decide, by decide +kernel⟩ (by decide) dL_law_389) _ (Lc i o5 o6, [.int y], u2) (cv_go (as := [.int (xs (i + 1)), .int (xs (i + 2))]) (st := []) rfl (li_0 I) e6 (Nat.le_of_ble_eq_true rfl) (ln_1 f6) (wt_1 f6)) ?_
  refine (so_aload_n C.1 dL_law_392 rfl) _ (Lc i o5 o6, [.ref 156, .int y], u2) rfl ?_
  refine so_arg C 1 (by decide) hi (by decide) dL_law_393 dL_law_394 dL_law_396 dL_law_397 dL_law_398 ?_
  refine so_arg C 2 (by decide) hi (by decide) dL_law_399 dL_law_400 dL_law_402 dL_law_403 dL_law_404 ?_
  refine (so_cv (ci := 7) (n := 2) C.1 m_X7_quarrel rfl klq_36 klq_37 klq_38 klq_39 k_475 ⟨by decide, by decide, by decide +kernel⟩ (by decide) dL_law_405) _ (Lc i o5 o6, [.int y, .int y], u3) (cv_go (as := [.int (xs (i + 1)), .int (xs (i + 2))]) (st := [.int y]) rfl ((kd_1 f6).trans (li_156 I)) e7 (Nat.le_of_ble_eq_true rfl) (ln_1 f7) (wt_1 f7)) ?_
  exact so_eqi C dL_law_408 (by decide) (IH u3 o5 o6 I3)
set_option maxHeartbeats 4000000 in
theorem lwc_5 (C : lCx p l e s m below meth c g b L xs) {n i : Nat} {o5 o6 : Option Value} {u : am_St} (hi : i + 6 ≤ L) (hn : n < 512) (I : LInv n u) (IH : ∀ (u3 : am_St) (o5 o6 : Option Value), LInv (n + 1) u3 → lG p l e s m below meth c g b 1726 (Lc i o5 o6, [], u3)) : lG p l e s m below meth c g b 413 (Lc i o5 o6, [], u) := by
  obtain ⟨r, u2, u3, e6, e7, f6, f7, I3⟩ := li_st (st_parties (x := xs (i + 1))) hn I
  obtain ⟨y, rfl⟩ := fi_den iv_parties e6
  refine (so_aload_n C.1 dL_law_413 rfl) _ (Lc i o5 o6, [.ref 0], u) rfl ?_
  refine so_arg C 1 (by decide) hi (by decide) dL_law_414 dL_law_415 dL_law_417 dL_law_418 dL_law_419 ?_
  refine (so_cv (ci := 6) (n := 1) C.1 m_X6_parties rfl klq_40 klq_41 klq_42 klq_43 k_5 ⟨by decide, by decide, by decide +kernel⟩ (by decide) dL_law_420) _ (Lc i o5 o6, [.int y], u2) (cv_go (as := [.int (xs (i + 1))]) (st := []) rfl (li_0 I) e6 (Nat.le_of_ble_eq_true rfl) (ln_1 f6) (wt_1 f6)) ?_
  refine (so_aload_n C.1 dL_law_423 rfl) _ (Lc i o5 o6, [.ref 156, .int y], u2) rfl ?_
  refine so_arg C 1 (by decide) hi (by decide) dL_law_424 dL_law_425 dL_law_427 dL_law_428 dL_law_429 ?_
  refine (so_cv (ci := 7) (n := 1) C.1 m_X7_parties rfl klq_44 klq_45 klq_46 klq_47 k_475 ⟨by decide, by decide, by decide +kernel⟩ (by decide) dL_law_430) _ (Lc i o5 o6, [.int y, .int y], u3) (cv_go (as := [.int (xs (i + 1))]) (st := [.int y]) rfl ((kd_1 f6).trans (li_156 I)) e7 (Nat.le_of_ble_eq_true rfl) (ln_1 f7) (wt_1 f7)) ?_
  exact so_eqi C dL_law_433 (by decide) (IH u3 o5 o6 I3)
set_option maxHeartbeats 4000000 in
theorem lwc_6 (C : lCx p l e s m below meth c g b L xs) {n i : Nat} {o5 o6 : Option Value} {u : am_St} (hi : i + 6 ≤ L) (hn : n < 512) (I : LInv n u) (IH : ∀ (u3 : am_St) (o5 o6 : Option Value), LInv (n + 1) u3 → lG p l e s m below meth c g b 1726 (Lc i o5 o6, [], u3)) : lG p l e s m below meth c g b 438 (Lc i o5 o6, [], u) := by
  obtain ⟨r, u2, u3, e6, e7, f6, f7, I3⟩ := li_st (st_bound (x := xs (i + 1))) hn I
  obtain ⟨y, rfl⟩ := fi_den iv_bound e6
  refine (so_aload_n C.1 dL_law_438 rfl) _ (Lc i o5 o6, [.ref 0], u) rfl ?_
  refine so_arg C 1 (by decide) hi (by decide) dL_law_439 dL_law_440 dL_law_442 dL_law_443 dL_law_444 ?_
  refine (so_cv (ci := 6) (n := 1) C.1 m_X6_bound rfl klq_48 klq_49 klq_50 klq_51 k_5 ⟨by decide, by decide, by decide +kernel⟩ (by decide) dL_law_445) _ (Lc i o5 o6, [.int y], u2) (cv_go (as := [.int (xs (i + 1))]) (st := []) rfl (li_0 I) e6 (Nat.le_of_ble_eq_true rfl) (ln_1 f6) (wt_1 f6)) ?_
  refine (so_aload_n C.1 dL_law_448 rfl) _ (Lc i o5 o6, [.ref 156, .int y], u2) rfl ?_
  refine so_arg C 1 (by decide) hi (by decide) dL_law_449 dL_law_450 dL_law_452 dL_law_453 dL_law_454 ?_
  refine (so_cv (ci := 7) (n := 1) C.1 m_X7_bound rfl klq_52 klq_53 klq_54 klq_55 k_475 ⟨by decide, by decide, by decide +kernel⟩ (by decide) dL_law_455) _ (Lc i o5 o6, [.int y, .int y], u3) (cv_go (as := [.int (xs (i + 1))]) (st := [.int y]) rfl ((kd_1 f6).trans (li_156 I)) e7 (Nat.le_of_ble_eq_true rfl) (ln_1 f7) (wt_1 f7)) ?_
  exact so_eqi C dL_law_458 (by decide) (IH u3 o5 o6 I3)
set_option maxHeartbeats 4000000 in
theorem lwc_7 (C : lCx p l e s m below meth c g b L xs) {n i : Nat} {o5 o6 : Option Value} {u : am_St} (hi : i + 6 ≤ L) (hn : n < 512) (I : LInv n u) (IH : ∀ (u3 : am_St) (o5 o6 : Option Value), LInv (n + 1) u3 → lG p l e s m below meth c g b 1726 (Lc i o5 o6, [], u3)) : lG p l e s m below meth c g b 463 (Lc i o5 o6, [], u) := by
  obtain ⟨r, u2, u3, e6, e7, f6, f7, I3⟩ := li_st st_peace hn I
  obtain ⟨y, rfl⟩ := fi_den iv_peace e6
  refine (so_aload_n C.1 dL_law_463 rfl) _ (Lc i o5 o6, [.ref 0], u) rfl ?_
  refine (so_cv (ci := 6) (n := 0) C.1 m_X6_peace rfl klq_56 klq_57 klq_58 klq_59 k_5 ⟨by decide, by decide, by decide +kernel⟩ (by decide) dL_law_464) _ (Lc i o5 o6, [.int y], u2) (cv_go (as := []) (st := []) rfl (li_0 I) e6 (Nat.le_of_ble_eq_true rfl) (ln_1 f6) (wt_1 f6)) ?_
  refine (so_aload_n C.1 dL_law_467 rfl) _ (Lc i o5 o6, [.ref 156, .int y], u2) rfl ?_
  refine (so_cv (ci := 7) (n := 0) C.1 m_X7_peace rfl klq_60 klq_61 klq_62 klq_63 k_475 ⟨by decide, by decide, by decide +kernel⟩ (by decide) dL_law_468) _ (Lc i o5 o6, [.int y, .int y], u3) (cv_go (as := []) (st := [.int y]) rfl ((kd_1 f6).trans (li_156 I)) e7 (Nat.le_of_ble_eq_true rfl) (ln_1 f7) (wt_1 f7)) ?_
  exact so_eqi C dL_law_471 (by decide) (IH u3 o5 o6 I3)
set_option maxHeartbeats 4000000 in
theorem lwc_8 (C : lCx p l e s m below meth c g b L xs) {n i : Nat} {o5 o6 : Option Value} {u : am_St} (hi : i + 6 ≤ L) (hn : n < 512) (I : LInv n u) (IH : ∀ (u3 : am_St) (o5 o6 : Option Value), LInv (n + 1) u3 → lG p l e s m below meth c g b 1726 (Lc i o5 o6, [], u3)) : lG p l e s m below meth c g b 476 (Lc i o5 o6, [], u) := by
  obtain ⟨r, u2, u3, e6, e7, f6, f7, I3⟩ := li_st st_stand hn I
  obtain ⟨y, rfl⟩ := fi_den iv_stand e6
  refine (so_aload_n C.1 dL_law_476 rfl) _ (Lc i o5 o6, [.ref 0], u) rfl ?_
  refine (so_cv (ci := 6) (n := 0) C.1 m_X6_stand rfl klq_64 klq_65 klq_66 klq_67 k_5 ⟨by decide, by decide, by decide +kernel⟩ (by decide) dL_law_477) _ (Lc i o5 o6, [.int y], u2) (cv_go (as := []) (st := []) rfl (li_0 I) e6 (Nat.le_of_ble_eq_true rfl) (ln_1 f6) (wt_1 f6)) ?_
  refine (so_aload_n C.1 dL_law_480 rfl) _ (Lc i o5 o6, [.ref 156, .int y], u2) rfl ?_
  refine (so_cv (ci := 7) (n := 0) C.1 m_X7_stand rfl klq_68 klq_69 klq_70 klq_71 k_475 ⟨by decide, by decide, by decide +kernel⟩ (by decide) dL_law_481) _ (Lc i o5 o6, [.int y, .int y], u3) (cv_go (as := []) (st := [.int y]) rfl ((kd_1 f6).trans (li_156 I)) e7 (Nat.le_of_ble_eq_true rfl) (ln_1 f7) (wt_1 f7)) ?_
  exact so_eqi C dL_law_484 (by decide) (IH u3 o5 o6 I3)
set_option maxHeartbeats 4000000 in
theorem lwc_9 (C : lCx p l e s m below meth c g b L xs) {n i : Nat} {o5 o6 : Option Value} {u : am_St} (hi : i + 6 ≤ L) (hn : n < 512) (I : LInv n u) (IH : ∀ (u3 : am_St) (o5 o6 : Option Value), LInv (n + 1) u3 → lG p l e s m below meth c g b 1726 (Lc i o5 o6, [], u3)) : lG p l e s m below meth c g b 489 (Lc i o5 o6, [], u) := by
  obtain ⟨r, u2, u3, e6, e7, f6, f7, I3⟩ := li_st (st_feud (x := xs (i + 1))) hn I
  obtain ⟨y, rfl⟩ := fi_den iv_feud e6
  refine (so_aload_n C.1 dL_law_489 rfl) _ (Lc i o5 o6, [.ref 0], u) rfl ?_
  refine so_arg C 1 (by decide) hi (by decide) dL_law_490 dL_law_491 dL_law_493 dL_law_494 dL_law_495 ?_
  refine (so_cv (ci := 6) (n := 1) C.1 m_X6_feud rfl klq_72 klq_73 klq_74 klq_75 k_5 ⟨by decide, by decide, by decide +kernel⟩ (by decide) dL_law_496) _ (Lc i o5 o6, [.int y], u2) (cv_go (as := [.int (xs (i + 1))]) (st := []) rfl (li_0 I) e6 (Nat.le_of_ble_eq_true rfl) (ln_1 f6) (wt_1 f6)) ?_
  refine (so_aload_n C.1 dL_law_499 rfl) _ (Lc i o5 o6, [.ref 156, .int y], u2) rfl ?_
  refine so_arg C 1 (by decide) hi (by decide) dL_law_500 dL_law_501 dL_law_503 dL_law_504 dL_law_505 ?_
  refine (so_cv (ci := 7) (n := 1) C.1 m_X7_feud rfl klq_76 klq_77 klq_78 klq_79 k_475 ⟨by decide, by decide, by decide +kernel⟩ (by decide) dL_law_506) _ (Lc i o5 o6, [.int y, .int y], u3) (cv_go (as := [.int (xs (i + 1))]) (st := [.int y]) rfl ((kd_1 f6).trans (li_156 I)) e7 (Nat.le_of_ble_eq_true rfl) (ln_1 f7) (wt_1 f7)) ?_
  exact so_eqi C dL_law_509 (by decide) (IH u3 o5 o6 I3)
set_option maxHeartbeats 4000000 in
theorem lwc_10 (C : lCx p l e s m below meth c g b L xs) {n i : Nat} {o5 o6 : Option Value} {u : am_St} (hi : i + 6 ≤ L) (hn : n < 512) (I : LInv n u) (IH : ∀ (u3 : am_St) (o5 o6 : Option Value), LInv (n + 1) u3 → lG p l e s m below meth c g b 1726 (Lc i o5 o6, [], u3)) : lG p l e s m below meth c g b 514 (Lc i o5 o6, [], u) := by
  obtain ⟨r, u2, u3, e6, e7, f6, f7, I3⟩ := li_st (st_vigour (x := xs (i + 1)) (y := xs (i + 2))) hn I
  obtain ⟨y, rfl⟩ := fi_den iv_vigour e6
  refine (so_aload_n C.1 dL_law_514 rfl) _ (Lc i o5 o6, [.ref 0], u) rfl ?_
  refine so_arg C 1 (by decide) hi (by decide) dL_law_515 dL_law_516 dL_law_518 dL_law_519 dL_law_520 ?_
  refine so_arg C 2 (by decide) hi (by decide) dL_law_521 dL_law_522 dL_law_524 dL_law_525 dL_law_526 ?_
  refine (so_cv (ci := 6) (n := 2) C.1 m_X6_vigour rfl klq_80 klq_81 klq_82 klq_83 k_5 ⟨by decide, by decide, by decide +kernel⟩ (by decide) dL_law_527) _ (Lc i o5 o6, [.int y], u2) (cv_go (as := [.int (xs (i + 1)), .int (xs (i + 2))]) (st := []) rfl (li_0 I) e6 (Nat.le_of_ble_eq_true rfl) (ln_1 f6) (wt_1 f6)) ?_
  refine (so_aload_n C.1 dL_law_530 rfl) _ (Lc i o5 o6, [.ref 156, .int y], u2) rfl ?_
  refine so_arg C 1 (by decide) hi (by decide) dL_law_531 dL_law_532 dL_law_534 dL_law_535 dL_law_536 ?_
  refine so_arg C 2 (by decide) hi (by decide) dL_law_537 dL_law_538 dL_law_540 dL_law_541 dL_law_542 ?_
  refine (so_cv (ci := 7) (n := 2) C.1 m_X7_vigour rfl klq_84 klq_85 klq_86 klq_87 k_475 ⟨by decide, by decide, by decide +kernel⟩ (by decide) dL_law_543) _ (Lc i o5 o6, [.int y, .int y], u3) (cv_go (as := [.int (xs (i + 1)), .int (xs (i + 2))]) (st := [.int y]) rfl ((kd_1 f6).trans (li_156 I)) e7 (Nat.le_of_ble_eq_true rfl) (ln_1 f7) (wt_1 f7)) ?_
  exact so_eqi C dL_law_546 (by decide) (IH u3 o5 o6 I3)
set_option maxHeartbeats 4000000 in
theorem lwc_11 (C : lCx p l e s m below meth c g b L xs) {n i : Nat} {o5 o6 : Option Value} {u : am_St} (hi : i + 6 ≤ L) (hn : n < 512) (I : LInv n u) (IH : ∀ (u3 : am_St) (o5 o6 : Option Value), LInv (n + 1) u3 → lG p l e s m below meth c g b 1726 (Lc i o5 o6, [], u3)) : lG p l e s m below meth c g b 551 (Lc i o5 o6, [], u) := by
  obtain ⟨r, u2, u3, e6, e7, f6, f7, I3⟩ := li_st (st_fruits (x := xs (i + 1)) (y := xs (i + 2))) hn I
  obtain ⟨y, rfl⟩ := fi_den iv_fruits e6
  refine (so_aload_n C.1 dL_law_551 rfl) _ (Lc i o5 o6, [.ref 0], u) rfl ?_
  refine so_arg C 1 (by decide) hi (by decide) dL_law_552 dL_law_553 dL_law_555 dL_law_556 dL_law_557 ?_
  refine so_arg C 2 (by decide) hi (by decide) dL_law_558 dL_law_559 dL_law_561 dL_law_562 dL_law_563 ?_
  refine (so_cv (ci := 6) (n := 2) C.1 m_X6_fruits rfl klq_88 klq_89 klq_90 klq_91 k_5 ⟨by decide, by decide, by decide +kernel⟩ (by decide) dL_law_564) _ (Lc i o5 o6, [.int y], u2) (cv_go (as := [.int (xs (i + 1)), .int (xs (i + 2))]) (st := []) rfl (li_0 I) e6 (Nat.le_of_ble_eq_true rfl) (ln_1 f6) (wt_1 f6)) ?_
  refine (so_aload_n C.1 dL_law_567 rfl) _ (Lc i o5 o6, [.ref 156, .int y], u2) rfl ?_
  refine so_arg C 1 (by decide) hi (by decide) dL_law_568 dL_law_569 dL_law_571 dL_law_572 dL_law_573 ?_
  refine so_arg C 2 (by decide) hi (by decide) dL_law_574 dL_law_575 dL_law_577 dL_law_578 dL_law_579 ?_
  refine (so_cv (ci := 7) (n := 2) C.1 m_X7_fruits rfl klq_92 klq_93 klq_94 klq_95 k_475 ⟨by decide, by decide, by decide +kernel⟩ (by decide) dL_law_580) _ (Lc i o5 o6, [.int y, .int y], u3) (cv_go (as := [.int (xs (i + 1)), .int (xs (i + 2))]) (st := [.int y]) rfl ((kd_1 f6).trans (li_156 I)) e7 (Nat.le_of_ble_eq_true rfl) (ln_1 f7) (wt_1 f7)) ?_
  exact so_eqi C dL_law_583 (by decide) (IH u3 o5 o6 I3)
end LAW

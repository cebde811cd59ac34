/-! THE LAW: its cases -/
section JCASES
theorem lw_c0 {sN : Nat} {sF : Nat → Int32} {w : Wd} {x m o q th i kb sb : Nat} {G : Gme} {Q : Po} {l6 l7 l8 : Option Value} (hN : sN < 2 ^ 31) (hi : i + 2 < sN) (hI : LI w x m o q G G th) (k : ∀ (w' : Wd) (G' : Gme) (th' : Nat) (l6 l7 l8 : Option Value), LI w' x m o q G' G' th' → JL sN sF 40 mL_law 2989 [some (.ref 3), some (.ref x), some (.ref m), some (.ref o), some (.ref q), some (.int (nI i)), l6, l7, l8] [] w' kb sb Q) : JL sN sF 40 mL_law 284 [some (.ref 3), some (.ref x), some (.ref m), some (.ref o), some (.ref q), some (.int (nI i)), l6, l7, l8] [] w (kb + 1) (sb + 6) Q := by
  refine JL_aload_n dL_law_284 rfl rfl ?_
  refine JL_aload_n dL_law_285 rfl rfl ?_
  refine JL_iload dL_law_286 rfl ?_
  refine JL_iconst (v := nI 1) dL_law_288 (by decide) ?_
  refine JL_iadd dL_law_289 ?_
  refine JL_scg dL_law_290 (scIn (by omega) hN) ?_
  refine JL_aload_n dL_law_291 rfl rfl ?_
  refine JL_help (mi := mL_law) (pc := 292) dL_law_292 rfl YL_addBlock kL_166 hI (fun g0 h1 h2 => c_L_addBlock hI.1 h1 h2 _) rfl rfl (Nat.le_of_ble_eq_true rfl) (by decide) (fun w1 g hg h0 hI1 => ?_)
  refine JL_istore dL_law_295 (by decide) rfl ?_
  refine JL_aload_n dL_law_297 rfl rfl ?_
  refine JL_aload_n dL_law_298 rfl rfl ?_
  refine JL_iload dL_law_299 rfl ?_
  refine JL_iconst (v := nI 1) dL_law_301 (by decide) ?_
  refine JL_iadd dL_law_302 ?_
  refine JL_scg dL_law_303 (scIn (by omega) hN) ?_
  refine JL_mod (mi := mL_law) (pc := 304) dL_law_304 YX9_addBlock rfl kL_171 hI1 hg (fun h => c_X9_addBlock h _) rfl rfl (Nat.le_of_ble_eq_true rfl) (by decide) (fun w2 z hz hI2 hO2 => ?_)
  refine JL_istore dL_law_307 (by decide) rfl ?_
  refine JL_aload_n dL_law_309 rfl rfl ?_
  refine JL_thr (mi := mL_law) (pc := 310) dL_law_310 YX9_thrown rfl kL_172 hI2 (fun h => c_X9_thrown h) rfl (Nat.le_of_ble_eq_true rfl) (by decide) ?_
  refine JL_iload dL_law_313 rfl ?_
  refine JL_icmp_eq (tgt := 320) dL_law_315 (by decide) (fun _ => ?_) (fun h => absurd rfl h)
  refine JL_iload dL_law_320 rfl ?_
  refine JL_if_ne (tgt := 337) dL_law_322 (by decide) (fun _ => ?_) (fun h => ?_)
  · exact JL_goto (tgt := 2989) dL_law_337 (by decide) (k _ _ _ _ _ _ hI2)
  · have e0 := cod_0.mp ((nI_eq (b := 0) (cod_lt _ (by decide)) (by decide)).mp h)
    have hz0 := hz e0
    have hg0 := h0 e0
    refine JL_aload_n dL_law_325 rfl rfl ?_
    refine JL_iconst (v := nI 0) dL_law_326 (by decide) ?_
    refine KL_lald (v := g 0) dL_law_327 hO2 (by decide) (by decide) rfl ?_
    refine JL_iload dL_law_328 rfl ?_
    refine JL_i2l dL_law_330 rfl ?_
    refine JL_lcmp dL_law_331 ?_
    exact JL_if_eq (tgt := 337) dL_law_332 (by decide) (fun _ => JL_goto (tgt := 2989) dL_law_337 (by decide) (k _ _ _ _ _ _ hI2)) (fun h => absurd (lgc_eq (by rw [hg0, hz0])) h)
theorem lw_c1 {sN : Nat} {sF : Nat → Int32} {w : Wd} {x m o q th i kb sb : Nat} {G : Gme} {Q : Po} {l6 l7 l8 : Option Value} (hN : sN < 2 ^ 31) (hi : i + 2 < sN) (hI : LI w x m o q G G th) (k : ∀ (w' : Wd) (G' : Gme) (th' : Nat) (l6 l7 l8 : Option Value), LI w' x m o q G' G' th' → JL sN sF 40 mL_law 2989 [some (.ref 3), some (.ref x), some (.ref m), some (.ref o), some (.ref q), some (.int (nI i)), l6, l7, l8] [] w' kb sb Q) : JL sN sF 40 mL_law 340 [some (.ref 3), some (.ref x), some (.ref m), some (.ref o), some (.ref q), some (.int (nI i)), l6, l7, l8] [] w (kb + 1) (sb + 6) Q := by
  refine JL_aload_n dL_law_340 rfl rfl ?_
  refine JL_aload_n dL_law_341 rfl rfl ?_
  refine JL_iload dL_law_342 rfl ?_
  refine JL_iconst (v := nI 1) dL_law_344 (by decide) ?_
  refine JL_iadd dL_law_345 ?_
  refine JL_scg dL_law_346 (scIn (by omega) hN) ?_
  refine JL_aload_n dL_law_347 rfl rfl ?_
  refine JL_help (mi := mL_law) (pc := 348) dL_law_348 rfl YL_addCushion kL_175 hI (fun g0 h1 h2 => c_L_addCushion hI.1 h1 h2 _) rfl rfl (Nat.le_of_ble_eq_true rfl) (by decide) (fun w1 g hg h0 hI1 => ?_)
  refine JL_istore dL_law_351 (by decide) rfl ?_
  refine JL_aload_n dL_law_353 rfl rfl ?_
  refine JL_aload_n dL_law_354 rfl rfl ?_
  refine JL_iload dL_law_355 rfl ?_
  refine JL_iconst (v := nI 1) dL_law_357 (by decide) ?_
  refine JL_iadd dL_law_358 ?_
  refine JL_scg dL_law_359 (scIn (by omega) hN) ?_
  refine JL_mod (mi := mL_law) (pc := 360) dL_law_360 YX9_addCushion rfl kL_177 hI1 hg (fun h => c_X9_addCushion h _) rfl rfl (Nat.le_of_ble_eq_true rfl) (by decide) (fun w2 z hz hI2 hO2 => ?_)
  refine JL_istore dL_law_363 (by decide) rfl ?_
  refine JL_aload_n dL_law_365 rfl rfl ?_
  refine JL_thr (mi := mL_law) (pc := 366) dL_law_366 YX9_thrown rfl kL_172 hI2 (fun h => c_X9_thrown h) rfl (Nat.le_of_ble_eq_true rfl) (by decide) ?_
  refine JL_iload dL_law_369 rfl ?_
  refine JL_icmp_eq (tgt := 376) dL_law_371 (by decide) (fun _ => ?_) (fun h => absurd rfl h)
  refine JL_iload dL_law_376 rfl ?_
  refine JL_if_ne (tgt := 393) dL_law_378 (by decide) (fun _ => ?_) (fun h => ?_)
  · exact JL_goto (tgt := 2989) dL_law_393 (by decide) (k _ _ _ _ _ _ hI2)
  · have e0 := cod_0.mp ((nI_eq (b := 0) (cod_lt _ (by decide)) (by decide)).mp h)
    have hz0 := hz e0
    have hg0 := h0 e0
    refine JL_aload_n dL_law_381 rfl rfl ?_
    refine JL_iconst (v := nI 0) dL_law_382 (by decide) ?_
    refine KL_lald (v := g 0) dL_law_383 hO2 (by decide) (by decide) rfl ?_
    refine JL_iload dL_law_384 rfl ?_
    refine JL_i2l dL_law_386 rfl ?_
    refine JL_lcmp dL_law_387 ?_
    exact JL_if_eq (tgt := 393) dL_law_388 (by decide) (fun _ => JL_goto (tgt := 2989) dL_law_393 (by decide) (k _ _ _ _ _ _ hI2)) (fun h => absurd (lgc_eq (by rw [hg0, hz0])) h)
theorem lw_c2 {sN : Nat} {sF : Nat → Int32} {w : Wd} {x m o q th i kb sb : Nat} {G : Gme} {Q : Po} {l6 l7 l8 : Option Value} (hN : sN < 2 ^ 31) (hi : i + 2 < sN) (hI : LI w x m o q G G th) (k : ∀ (w' : Wd) (G' : Gme) (th' : Nat) (l6 l7 l8 : Option Value), LI w' x m o q G' G' th' → JL sN sF 40 mL_law 2989 [some (.ref 3), some (.ref x), some (.ref m), some (.ref o), some (.ref q), some (.int (nI i)), l6, l7, l8] [] w' kb sb Q) : JL sN sF 40 mL_law 396 [some (.ref 3), some (.ref x), some (.ref m), some (.ref o), some (.ref q), some (.int (nI i)), l6, l7, l8] [] w (kb + 1) (sb + 6) Q := by
  refine JL_aload_n dL_law_396 rfl rfl ?_
  refine JL_aload_n dL_law_397 rfl rfl ?_
  refine JL_iload dL_law_398 rfl ?_
  refine JL_iconst (v := nI 1) dL_law_400 (by decide) ?_
  refine JL_iadd dL_law_401 ?_
  refine JL_scg dL_law_402 (scIn (by omega) hN) ?_
  refine JL_aload_n dL_law_403 rfl rfl ?_
  refine JL_iload dL_law_404 rfl ?_
  refine JL_iconst (v := nI 2) dL_law_406 (by decide) ?_
  refine JL_iadd dL_law_407 ?_
  refine JL_scg dL_law_408 (scIn (by omega) hN) ?_
  refine JL_aload_n dL_law_409 rfl rfl ?_
  refine JL_help (mi := mL_law) (pc := 410) dL_law_410 rfl YL_link kL_178 hI (fun g0 h1 h2 => c_L_link hI.1 h1 h2 _ _) rfl rfl (Nat.le_of_ble_eq_true rfl) (by decide) (fun w1 g hg h0 hI1 => ?_)
  refine JL_istore dL_law_413 (by decide) rfl ?_
  refine JL_aload_n dL_law_415 rfl rfl ?_
  refine JL_aload_n dL_law_416 rfl rfl ?_
  refine JL_iload dL_law_417 rfl ?_
  refine JL_iconst (v := nI 1) dL_law_419 (by decide) ?_
  refine JL_iadd dL_law_420 ?_
  refine JL_scg dL_law_421 (scIn (by omega) hN) ?_
  refine JL_aload_n dL_law_422 rfl rfl ?_
  refine JL_iload dL_law_423 rfl ?_
  refine JL_iconst (v := nI 2) dL_law_425 (by decide) ?_
  refine JL_iadd dL_law_426 ?_
  refine JL_scg dL_law_427 (scIn (by omega) hN) ?_
  refine JL_mod (mi := mL_law) (pc := 428) dL_law_428 YX9_link rfl kL_181 hI1 hg (fun h => c_X9_link h _ _) rfl rfl (Nat.le_of_ble_eq_true rfl) (by decide) (fun w2 z hz hI2 hO2 => ?_)
  refine JL_istore dL_law_431 (by decide) rfl ?_
  refine JL_aload_n dL_law_433 rfl rfl ?_
  refine JL_thr (mi := mL_law) (pc := 434) dL_law_434 YX9_thrown rfl kL_172 hI2 (fun h => c_X9_thrown h) rfl (Nat.le_of_ble_eq_true rfl) (by decide) ?_
  refine JL_iload dL_law_437 rfl ?_
  refine JL_icmp_eq (tgt := 444) dL_law_439 (by decide) (fun _ => ?_) (fun h => absurd rfl h)
  refine JL_iload dL_law_444 rfl ?_
  refine JL_if_ne (tgt := 461) dL_law_446 (by decide) (fun _ => ?_) (fun h => ?_)
  · exact JL_goto (tgt := 2989) dL_law_461 (by decide) (k _ _ _ _ _ _ hI2)
  · have e0 := cod_0.mp ((nI_eq (b := 0) (cod_lt _ (by decide)) (by decide)).mp h)
    have hz0 := hz e0
    have hg0 := h0 e0
    refine JL_aload_n dL_law_449 rfl rfl ?_
    refine JL_iconst (v := nI 0) dL_law_450 (by decide) ?_
    refine KL_lald (v := g 0) dL_law_451 hO2 (by decide) (by decide) rfl ?_
    refine JL_iload dL_law_452 rfl ?_
    refine JL_i2l dL_law_454 rfl ?_
    refine JL_lcmp dL_law_455 ?_
    exact JL_if_eq (tgt := 461) dL_law_456 (by decide) (fun _ => JL_goto (tgt := 2989) dL_law_461 (by decide) (k _ _ _ _ _ _ hI2)) (fun h => absurd (lgc_eq (by rw [hg0, hz0])) h)
theorem lw_c3 {sN : Nat} {sF : Nat → Int32} {w : Wd} {x m o q th i kb sb : Nat} {G : Gme} {Q : Po} {l6 l7 l8 : Option Value} (hN : sN < 2 ^ 31) (hi : i + 2 < sN) (hI : LI w x m o q G G th) (k : ∀ (w' : Wd) (G' : Gme) (th' : Nat) (l6 l7 l8 : Option Value), LI w' x m o q G' G' th' → JL sN sF 40 mL_law 2989 [some (.ref 3), some (.ref x), some (.ref m), some (.ref o), some (.ref q), some (.int (nI i)), l6, l7, l8] [] w' kb sb Q) : JL sN sF 40 mL_law 464 [some (.ref 3), some (.ref x), some (.ref m), some (.ref o), some (.ref q), some (.int (nI i)), l6, l7, l8] [] w (kb + 1) (sb + 6) Q := by
  refine JL_aload_n dL_law_464 rfl rfl ?_
  refine JL_aload_n dL_law_465 rfl rfl ?_
  refine JL_iload dL_law_466 rfl ?_
  refine JL_iconst (v := nI 1) dL_law_468 (by decide) ?_
  refine JL_iadd dL_law_469 ?_
  refine JL_scg dL_law_470 (scIn (by omega) hN) ?_
  refine JL_aload_n dL_law_471 rfl rfl ?_
  refine JL_iload dL_law_472 rfl ?_
  refine JL_iconst (v := nI 2) dL_law_474 (by decide) ?_
  refine JL_iadd dL_law_475 ?_
  refine JL_scg dL_law_476 (scIn (by omega) hN) ?_
  refine JL_aload_n dL_law_477 rfl rfl ?_
  refine JL_help (mi := mL_law) (pc := 478) dL_law_478 rfl YL_unlink kL_182 hI (fun g0 h1 h2 => c_L_unlink hI.1 h1 h2 _ _) rfl rfl (Nat.le_of_ble_eq_true rfl) (by decide) (fun w1 g hg h0 hI1 => ?_)
  refine JL_istore dL_law_481 (by decide) rfl ?_
  refine JL_aload_n dL_law_483 rfl rfl ?_
  refine JL_aload_n dL_law_484 rfl rfl ?_
  refine JL_iload dL_law_485 rfl ?_
  refine JL_iconst (v := nI 1) dL_law_487 (by decide) ?_
  refine JL_iadd dL_law_488 ?_
  refine JL_scg dL_law_489 (scIn (by omega) hN) ?_
  refine JL_aload_n dL_law_490 rfl rfl ?_
  refine JL_iload dL_law_491 rfl ?_
  refine JL_iconst (v := nI 2) dL_law_493 (by decide) ?_
  refine JL_iadd dL_law_494 ?_
  refine JL_scg dL_law_495 (scIn (by omega) hN) ?_
  refine JL_mod (mi := mL_law) (pc := 496) dL_law_496 YX9_unlink rfl kL_184 hI1 hg (fun h => c_X9_unlink h _ _) rfl rfl (Nat.le_of_ble_eq_true rfl) (by decide) (fun w2 z hz hI2 hO2 => ?_)
  refine JL_istore dL_law_499 (by decide) rfl ?_
  refine JL_aload_n dL_law_501 rfl rfl ?_
  refine JL_thr (mi := mL_law) (pc := 502) dL_law_502 YX9_thrown rfl kL_172 hI2 (fun h => c_X9_thrown h) rfl (Nat.le_of_ble_eq_true rfl) (by decide) ?_
  refine JL_iload dL_law_505 rfl ?_
  refine JL_icmp_eq (tgt := 512) dL_law_507 (by decide) (fun _ => ?_) (fun h => absurd rfl h)
  refine JL_iload dL_law_512 rfl ?_
  refine JL_if_ne (tgt := 529) dL_law_514 (by decide) (fun _ => ?_) (fun h => ?_)
  · exact JL_goto (tgt := 2989) dL_law_529 (by decide) (k _ _ _ _ _ _ hI2)
  · have e0 := cod_0.mp ((nI_eq (b := 0) (cod_lt _ (by decide)) (by decide)).mp h)
    have hz0 := hz e0
    have hg0 := h0 e0
    refine JL_aload_n dL_law_517 rfl rfl ?_
    refine JL_iconst (v := nI 0) dL_law_518 (by decide) ?_
    refine KL_lald (v := g 0) dL_law_519 hO2 (by decide) (by decide) rfl ?_
    refine JL_iload dL_law_520 rfl ?_
    refine JL_i2l dL_law_522 rfl ?_
    refine JL_lcmp dL_law_523 ?_
    exact JL_if_eq (tgt := 529) dL_law_524 (by decide) (fun _ => JL_goto (tgt := 2989) dL_law_529 (by decide) (k _ _ _ _ _ _ hI2)) (fun h => absurd (lgc_eq (by rw [hg0, hz0])) h)
theorem lw_c4 {sN : Nat} {sF : Nat → Int32} {w : Wd} {x m o q th i kb sb : Nat} {G : Gme} {Q : Po} {l6 l7 l8 : Option Value} (hN : sN < 2 ^ 31) (hi : i + 2 < sN) (hI : LI w x m o q G G th) (k : ∀ (w' : Wd) (G' : Gme) (th' : Nat) (l6 l7 l8 : Option Value), LI w' x m o q G' G' th' → JL sN sF 40 mL_law 2989 [some (.ref 3), some (.ref x), some (.ref m), some (.ref o), some (.ref q), some (.int (nI i)), l6, l7, l8] [] w' kb sb Q) : JL sN sF 40 mL_law 532 [some (.ref 3), some (.ref x), some (.ref m), some (.ref o), some (.ref q), some (.int (nI i)), l6, l7, l8] [] w (kb + 1) (sb + 6) Q := by
  refine JL_aload_n dL_law_532 rfl rfl ?_
  refine JL_aload_n dL_law_533 rfl rfl ?_
  refine JL_iload dL_law_534 rfl ?_
  refine JL_iconst (v := nI 1) dL_law_536 (by decide) ?_
  refine JL_iadd dL_law_537 ?_
  refine JL_scg dL_law_538 (scIn (by omega) hN) ?_
  refine JL_aload_n dL_law_539 rfl rfl ?_
  refine JL_help (mi := mL_law) (pc := 540) dL_law_540 rfl YL_putCat kL_185 hI (fun g0 h1 h2 => c_L_putCat hI.1 h1 h2 _) rfl rfl (Nat.le_of_ble_eq_true rfl) (by decide) (fun w1 g hg h0 hI1 => ?_)
  refine JL_istore dL_law_543 (by decide) rfl ?_
  refine JL_aload_n dL_law_545 rfl rfl ?_
  refine JL_aload_n dL_law_546 rfl rfl ?_
  refine JL_iload dL_law_547 rfl ?_
  refine JL_iconst (v := nI 1) dL_law_549 (by decide) ?_
  refine JL_iadd dL_law_550 ?_
  refine JL_scg dL_law_551 (scIn (by omega) hN) ?_
  refine JL_mod (mi := mL_law) (pc := 552) dL_law_552 YX9_putCat rfl kL_187 hI1 hg (fun h => c_X9_putCat h _) rfl rfl (Nat.le_of_ble_eq_true rfl) (by decide) (fun w2 z hz hI2 hO2 => ?_)
  refine JL_istore dL_law_555 (by decide) rfl ?_
  refine JL_aload_n dL_law_557 rfl rfl ?_
  refine JL_thr (mi := mL_law) (pc := 558) dL_law_558 YX9_thrown rfl kL_172 hI2 (fun h => c_X9_thrown h) rfl (Nat.le_of_ble_eq_true rfl) (by decide) ?_
  refine JL_iload dL_law_561 rfl ?_
  refine JL_icmp_eq (tgt := 568) dL_law_563 (by decide) (fun _ => ?_) (fun h => absurd rfl h)
  refine JL_iload dL_law_568 rfl ?_
  refine JL_if_ne (tgt := 585) dL_law_570 (by decide) (fun _ => ?_) (fun h => ?_)
  · exact JL_goto (tgt := 2989) dL_law_585 (by decide) (k _ _ _ _ _ _ hI2)
  · have e0 := cod_0.mp ((nI_eq (b := 0) (cod_lt _ (by decide)) (by decide)).mp h)
    have hz0 := hz e0
    have hg0 := h0 e0
    refine JL_aload_n dL_law_573 rfl rfl ?_
    refine JL_iconst (v := nI 0) dL_law_574 (by decide) ?_
    refine KL_lald (v := g 0) dL_law_575 hO2 (by decide) (by decide) rfl ?_
    refine JL_iload dL_law_576 rfl ?_
    refine JL_i2l dL_law_578 rfl ?_
    refine JL_lcmp dL_law_579 ?_
    exact JL_if_eq (tgt := 585) dL_law_580 (by decide) (fun _ => JL_goto (tgt := 2989) dL_law_585 (by decide) (k _ _ _ _ _ _ hI2)) (fun h => absurd (lgc_eq (by rw [hg0, hz0])) h)
theorem lw_c5 {sN : Nat} {sF : Nat → Int32} {w : Wd} {x m o q th i kb sb : Nat} {G : Gme} {Q : Po} {l6 l7 l8 : Option Value} (hN : sN < 2 ^ 31) (hi : i + 2 < sN) (hI : LI w x m o q G G th) (k : ∀ (w' : Wd) (G' : Gme) (th' : Nat) (l6 l7 l8 : Option Value), LI w' x m o q G' G' th' → JL sN sF 40 mL_law 2989 [some (.ref 3), some (.ref x), some (.ref m), some (.ref o), some (.ref q), some (.int (nI i)), l6, l7, l8] [] w' kb sb Q) : JL sN sF 40 mL_law 588 [some (.ref 3), some (.ref x), some (.ref m), some (.ref o), some (.ref q), some (.int (nI i)), l6, l7, l8] [] w (kb + 1) (sb + 6) Q := by
  refine JL_aload_n dL_law_588 rfl rfl ?_
  refine JL_aload_n dL_law_589 rfl rfl ?_
  refine JL_iload dL_law_590 rfl ?_
  refine JL_iconst (v := nI 1) dL_law_592 (by decide) ?_
  refine JL_iadd dL_law_593 ?_
  refine JL_scg dL_law_594 (scIn (by omega) hN) ?_
  refine JL_aload_n dL_law_595 rfl rfl ?_
  refine JL_help (mi := mL_law) (pc := 596) dL_law_596 rfl YL_removeCat kL_188 hI (fun g0 h1 h2 => c_L_removeCat hI.1 h1 h2 _) rfl rfl (Nat.le_of_ble_eq_true rfl) (by decide) (fun w1 g hg h0 hI1 => ?_)
  refine JL_istore dL_law_599 (by decide) rfl ?_
  refine JL_aload_n dL_law_601 rfl rfl ?_
  refine JL_aload_n dL_law_602 rfl rfl ?_
  refine JL_iload dL_law_603 rfl ?_
  refine JL_iconst (v := nI 1) dL_law_605 (by decide) ?_
  refine JL_iadd dL_law_606 ?_
  refine JL_scg dL_law_607 (scIn (by omega) hN) ?_
  refine JL_mod (mi := mL_law) (pc := 608) dL_law_608 YX9_removeCat rfl kL_190 hI1 hg (fun h => c_X9_removeCat h _) rfl rfl (Nat.le_of_ble_eq_true rfl) (by decide) (fun w2 z hz hI2 hO2 => ?_)
  refine JL_istore dL_law_611 (by decide) rfl ?_
  refine JL_aload_n dL_law_613 rfl rfl ?_
  refine JL_thr (mi := mL_law) (pc := 614) dL_law_614 YX9_thrown rfl kL_172 hI2 (fun h => c_X9_thrown h) rfl (Nat.le_of_ble_eq_true rfl) (by decide) ?_
  refine JL_iload dL_law_617 rfl ?_
  refine JL_icmp_eq (tgt := 624) dL_law_619 (by decide) (fun _ => ?_) (fun h => absurd rfl h)
  refine JL_iload dL_law_624 rfl ?_
  refine JL_if_ne (tgt := 641) dL_law_626 (by decide) (fun _ => ?_) (fun h => ?_)
  · exact JL_goto (tgt := 2989) dL_law_641 (by decide) (k _ _ _ _ _ _ hI2)
  · have e0 := cod_0.mp ((nI_eq (b := 0) (cod_lt _ (by decide)) (by decide)).mp h)
    have hz0 := hz e0
    have hg0 := h0 e0
    refine JL_aload_n dL_law_629 rfl rfl ?_
    refine JL_iconst (v := nI 0) dL_law_630 (by decide) ?_
    refine KL_lald (v := g 0) dL_law_631 hO2 (by decide) (by decide) rfl ?_
    refine JL_iload dL_law_632 rfl ?_
    refine JL_i2l dL_law_634 rfl ?_
    refine JL_lcmp dL_law_635 ?_
    exact JL_if_eq (tgt := 641) dL_law_636 (by decide) (fun _ => JL_goto (tgt := 2989) dL_law_641 (by decide) (k _ _ _ _ _ _ hI2)) (fun h => absurd (lgc_eq (by rw [hg0, hz0])) h)
theorem lw_c6 {sN : Nat} {sF : Nat → Int32} {w : Wd} {x m o q th i kb sb : Nat} {G : Gme} {Q : Po} {l6 l7 l8 : Option Value} (hN : sN < 2 ^ 31) (hi : i + 2 < sN) (hI : LI w x m o q G G th) (k : ∀ (w' : Wd) (G' : Gme) (th' : Nat) (l6 l7 l8 : Option Value), LI w' x m o q G' G' th' → JL sN sF 40 mL_law 2989 [some (.ref 3), some (.ref x), some (.ref m), some (.ref o), some (.ref q), some (.int (nI i)), l6, l7, l8] [] w' kb sb Q) : JL sN sF 40 mL_law 644 [some (.ref 3), some (.ref x), some (.ref m), some (.ref o), some (.ref q), some (.int (nI i)), l6, l7, l8] [] w (kb + 1) (sb + 6) Q := by
  refine JL_aload_n dL_law_644 rfl rfl ?_
  refine JL_cls (mi := mL_law) (pc := 645) dL_law_645 YX8_blockCount rfl kL_191 hI (fun h => c_X8_blockCount h) rfl rfl rfl (Nat.le_of_ble_eq_true rfl) (by decide) (fun w1 hI1 => ?_)
  obtain ⟨g, hO⟩ := hI1.2.2.1
  refine JL_aload_n dL_law_648 rfl rfl ?_
  refine JL_mod (mi := mL_law) (pc := 649) dL_law_649 YX9_blockCount rfl kL_194 hI1 hO (fun h => c_X9_blockCount h) rfl rfl (Nat.le_of_ble_eq_true rfl) (by decide) (fun w2 z hz hI2 hO2 => ?_)
  have hz0 := hz rfl
  exact JL_icmp_eq (tgt := 2989) dL_law_652 (by decide) (fun _ => k _ _ _ _ _ _ hI2) (fun h => absurd hz0.symm h)
theorem lw_c7 {sN : Nat} {sF : Nat → Int32} {w : Wd} {x m o q th i kb sb : Nat} {G : Gme} {Q : Po} {l6 l7 l8 : Option Value} (hN : sN < 2 ^ 31) (hi : i + 2 < sN) (hI : LI w x m o q G G th) (k : ∀ (w' : Wd) (G' : Gme) (th' : Nat) (l6 l7 l8 : Option Value), LI w' x m o q G' G' th' → JL sN sF 40 mL_law 2989 [some (.ref 3), some (.ref x), some (.ref m), some (.ref o), some (.ref q), some (.int (nI i)), l6, l7, l8] [] w' kb sb Q) : JL sN sF 40 mL_law 657 [some (.ref 3), some (.ref x), some (.ref m), some (.ref o), some (.ref q), some (.int (nI i)), l6, l7, l8] [] w (kb + 1) (sb + 6) Q := by
  refine JL_aload_n dL_law_657 rfl rfl ?_
  refine JL_aload_n dL_law_658 rfl rfl ?_
  refine JL_iload dL_law_659 rfl ?_
  refine JL_iconst (v := nI 1) dL_law_661 (by decide) ?_
  refine JL_iadd dL_law_662 ?_
  refine JL_scg dL_law_663 (scIn (by omega) hN) ?_
  refine JL_aload_n dL_law_664 rfl rfl ?_
  refine JL_help (mi := mL_law) (pc := 665) dL_law_665 rfl YL_length kL_195 hI (fun g0 h1 h2 => c_L_length hI.1 h1 h2 _) rfl rfl (Nat.le_of_ble_eq_true rfl) (by decide) (fun w1 g hg h0 hI1 => ?_)
  refine JL_istore dL_law_668 (by decide) rfl ?_
  refine JL_aload_n dL_law_670 rfl rfl ?_
  refine JL_aload_n dL_law_671 rfl rfl ?_
  refine JL_iload dL_law_672 rfl ?_
  refine JL_iconst (v := nI 1) dL_law_674 (by decide) ?_
  refine JL_iadd dL_law_675 ?_
  refine JL_scg dL_law_676 (scIn (by omega) hN) ?_
  refine JL_mod (mi := mL_law) (pc := 677) dL_law_677 YX9_length rfl kL_197 hI1 hg (fun h => c_X9_length h _) rfl rfl (Nat.le_of_ble_eq_true rfl) (by decide) (fun w2 z hz hI2 hO2 => ?_)
  refine JL_istore dL_law_680 (by decide) rfl ?_
  refine JL_aload_n dL_law_682 rfl rfl ?_
  refine JL_thr (mi := mL_law) (pc := 683) dL_law_683 YX9_thrown rfl kL_172 hI2 (fun h => c_X9_thrown h) rfl (Nat.le_of_ble_eq_true rfl) (by decide) ?_
  refine JL_iload dL_law_686 rfl ?_
  refine JL_icmp_eq (tgt := 693) dL_law_688 (by decide) (fun _ => ?_) (fun h => absurd rfl h)
  refine JL_iload dL_law_693 rfl ?_
  refine JL_if_ne (tgt := 710) dL_law_695 (by decide) (fun _ => ?_) (fun h => ?_)
  · exact JL_goto (tgt := 2989) dL_law_710 (by decide) (k _ _ _ _ _ _ hI2)
  · have e0 := cod_0.mp ((nI_eq (b := 0) (cod_lt _ (by decide)) (by decide)).mp h)
    have hz0 := hz e0
    have hg0 := h0 e0
    refine JL_aload_n dL_law_698 rfl rfl ?_
    refine JL_iconst (v := nI 0) dL_law_699 (by decide) ?_
    refine KL_lald (v := g 0) dL_law_700 hO2 (by decide) (by decide) rfl ?_
    refine JL_iload dL_law_701 rfl ?_
    refine JL_i2l dL_law_703 rfl ?_
    refine JL_lcmp dL_law_704 ?_
    exact JL_if_eq (tgt := 710) dL_law_705 (by decide) (fun _ => JL_goto (tgt := 2989) dL_law_710 (by decide) (k _ _ _ _ _ _ hI2)) (fun h => absurd (lgc_eq (by rw [hg0, hz0])) h)
theorem lw_c8 {sN : Nat} {sF : Nat → Int32} {w : Wd} {x m o q th i kb sb : Nat} {G : Gme} {Q : Po} {l6 l7 l8 : Option Value} (hN : sN < 2 ^ 31) (hi : i + 2 < sN) (hI : LI w x m o q G G th) (k : ∀ (w' : Wd) (G' : Gme) (th' : Nat) (l6 l7 l8 : Option Value), LI w' x m o q G' G' th' → JL sN sF 40 mL_law 2989 [some (.ref 3), some (.ref x), some (.ref m), some (.ref o), some (.ref q), some (.int (nI i)), l6, l7, l8] [] w' kb sb Q) : JL sN sF 40 mL_law 713 [some (.ref 3), some (.ref x), some (.ref m), some (.ref o), some (.ref q), some (.int (nI i)), l6, l7, l8] [] w (kb + 1) (sb + 6) Q := by
  refine JL_aload_n dL_law_713 rfl rfl ?_
  refine JL_aload_n dL_law_714 rfl rfl ?_
  refine JL_iload dL_law_715 rfl ?_
  refine JL_iconst (v := nI 1) dL_law_717 (by decide) ?_
  refine JL_iadd dL_law_718 ?_
  refine JL_scg dL_law_719 (scIn (by omega) hN) ?_
  refine JL_aload_n dL_law_720 rfl rfl ?_
  refine JL_help (mi := mL_law) (pc := 721) dL_law_721 rfl YL_isCushion kL_198 hI (fun g0 h1 h2 => c_L_isCushion hI.1 h1 h2 _) rfl rfl (Nat.le_of_ble_eq_true rfl) (by decide) (fun w1 g hg h0 hI1 => ?_)
  refine JL_istore dL_law_724 (by decide) rfl ?_
  refine JL_aload_n dL_law_726 rfl rfl ?_
  refine JL_aload_n dL_law_727 rfl rfl ?_
  refine JL_iload dL_law_728 rfl ?_
  refine JL_iconst (v := nI 1) dL_law_730 (by decide) ?_
  refine JL_iadd dL_law_731 ?_
  refine JL_scg dL_law_732 (scIn (by omega) hN) ?_
  refine JL_mod (mi := mL_law) (pc := 733) dL_law_733 YX9_isCushion rfl kL_200 hI1 hg (fun h => c_X9_isCushion h _) rfl rfl (Nat.le_of_ble_eq_true rfl) (by decide) (fun w2 z hz hI2 hO2 => ?_)
  refine JL_istore dL_law_736 (by decide) rfl ?_
  refine JL_aload_n dL_law_738 rfl rfl ?_
  refine JL_thr (mi := mL_law) (pc := 739) dL_law_739 YX9_thrown rfl kL_172 hI2 (fun h => c_X9_thrown h) rfl (Nat.le_of_ble_eq_true rfl) (by decide) ?_
  refine JL_iload dL_law_742 rfl ?_
  refine JL_icmp_eq (tgt := 749) dL_law_744 (by decide) (fun _ => ?_) (fun h => absurd rfl h)
  refine JL_iload dL_law_749 rfl ?_
  refine JL_if_ne (tgt := 773) dL_law_751 (by decide) (fun _ => ?_) (fun h => ?_)
  · exact JL_goto (tgt := 2989) dL_law_773 (by decide) (k _ _ _ _ _ _ hI2)
  · have e0 := cod_0.mp ((nI_eq (b := 0) (cod_lt _ (by decide)) (by decide)).mp h)
    have hz0 := hz e0
    have hg0 := h0 e0
    refine JL_aload_n dL_law_754 rfl rfl ?_
    refine JL_iconst (v := nI 0) dL_law_755 (by decide) ?_
    refine KL_lald (v := g 0) dL_law_756 hO2 (by decide) (by decide) rfl ?_
    refine JL_iload dL_law_757 rfl ?_
    refine JL_if_eq (tgt := 766) dL_law_759 (by decide) (fun hz1 => ?_) (fun hz1 => ?_)
    · refine JL_lconst (v := Int64.ofNat 0) dL_law_766 rfl ?_
      refine JL_lcmp dL_law_767 ?_
      exact JL_if_eq (tgt := 773) dL_law_768 (by decide) (fun _ => JL_goto (tgt := 2989) dL_law_773 (by decide) (k _ _ _ _ _ _ hI2)) (fun h => absurd (lgc_eq (by rw [hg0, ← hz0, hz1]; decide)) h)
    · refine JL_lconst (v := Int64.ofNat 1) dL_law_762 rfl ?_
      refine JL_goto (tgt := 767) dL_law_763 (by decide) ?_
      refine JL_lcmp dL_law_767 ?_
      exact JL_if_eq (tgt := 773) dL_law_768 (by decide) (fun _ => JL_goto (tgt := 2989) dL_law_773 (by decide) (k _ _ _ _ _ _ hI2)) (fun h => absurd (lgc_eq (by rw [hg0]; exact (lw_b1 (lb_isCushion G _) (by rw [← hz0]; exact hz1)).symm)) h)
theorem lw_c9 {sN : Nat} {sF : Nat → Int32} {w : Wd} {x m o q th i kb sb : Nat} {G : Gme} {Q : Po} {l6 l7 l8 : Option Value} (hN : sN < 2 ^ 31) (hi : i + 2 < sN) (hI : LI w x m o q G G th) (k : ∀ (w' : Wd) (G' : Gme) (th' : Nat) (l6 l7 l8 : Option Value), LI w' x m o q G' G' th' → JL sN sF 40 mL_law 2989 [some (.ref 3), some (.ref x), some (.ref m), some (.ref o), some (.ref q), some (.int (nI i)), l6, l7, l8] [] w' kb sb Q) : JL sN sF 40 mL_law 776 [some (.ref 3), some (.ref x), some (.ref m), some (.ref o), some (.ref q), some (.int (nI i)), l6, l7, l8] [] w (kb + 1) (sb + 6) Q := by
  refine JL_aload_n dL_law_776 rfl rfl ?_
  refine JL_aload_n dL_law_777 rfl rfl ?_
  refine JL_iload dL_law_778 rfl ?_
  refine JL_iconst (v := nI 1) dL_law_780 (by decide) ?_
  refine JL_iadd dL_law_781 ?_
  refine JL_scg dL_law_782 (scIn (by omega) hN) ?_
  refine JL_aload_n dL_law_783 rfl rfl ?_
  refine JL_help (mi := mL_law) (pc := 784) dL_law_784 rfl YL_hasCat kL_201 hI (fun g0 h1 h2 => c_L_hasCat hI.1 h1 h2 _) rfl rfl (Nat.le_of_ble_eq_true rfl) (by decide) (fun w1 g hg h0 hI1 => ?_)
  refine JL_istore dL_law_787 (by decide) rfl ?_
  refine JL_aload_n dL_law_789 rfl rfl ?_
  refine JL_aload_n dL_law_790 rfl rfl ?_
  refine JL_iload dL_law_791 rfl ?_
  refine JL_iconst (v := nI 1) dL_law_793 (by decide) ?_
  refine JL_iadd dL_law_794 ?_
  refine JL_scg dL_law_795 (scIn (by omega) hN) ?_
  refine JL_mod (mi := mL_law) (pc := 796) dL_law_796 YX9_hasCat rfl kL_203 hI1 hg (fun h => c_X9_hasCat h _) rfl rfl (Nat.le_of_ble_eq_true rfl) (by decide) (fun w2 z hz hI2 hO2 => ?_)
  refine JL_istore dL_law_799 (by decide) rfl ?_
  refine JL_aload_n dL_law_801 rfl rfl ?_
  refine JL_thr (mi := mL_law) (pc := 802) dL_law_802 YX9_thrown rfl kL_172 hI2 (fun h => c_X9_thrown h) rfl (Nat.le_of_ble_eq_true rfl) (by decide) ?_
  refine JL_iload dL_law_805 rfl ?_
  refine JL_icmp_eq (tgt := 812) dL_law_807 (by decide) (fun _ => ?_) (fun h => absurd rfl h)
  refine JL_iload dL_law_812 rfl ?_
  refine JL_if_ne (tgt := 836) dL_law_814 (by decide) (fun _ => ?_) (fun h => ?_)
  · exact JL_goto (tgt := 2989) dL_law_836 (by decide) (k _ _ _ _ _ _ hI2)
  · have e0 := cod_0.mp ((nI_eq (b := 0) (cod_lt _ (by decide)) (by decide)).mp h)
    have hz0 := hz e0
    have hg0 := h0 e0
    refine JL_aload_n dL_law_817 rfl rfl ?_
    refine JL_iconst (v := nI 0) dL_law_818 (by decide) ?_
    refine KL_lald (v := g 0) dL_law_819 hO2 (by decide) (by decide) rfl ?_
    refine JL_iload dL_law_820 rfl ?_
    refine JL_if_eq (tgt := 829) dL_law_822 (by decide) (fun hz1 => ?_) (fun hz1 => ?_)
    · refine JL_lconst (v := Int64.ofNat 0) dL_law_829 rfl ?_
      refine JL_lcmp dL_law_830 ?_
      exact JL_if_eq (tgt := 836) dL_law_831 (by decide) (fun _ => JL_goto (tgt := 2989) dL_law_836 (by decide) (k _ _ _ _ _ _ hI2)) (fun h => absurd (lgc_eq (by rw [hg0, ← hz0, hz1]; decide)) h)
    · refine JL_lconst (v := Int64.ofNat 1) dL_law_825 rfl ?_
      refine JL_goto (tgt := 830) dL_law_826 (by decide) ?_
      refine JL_lcmp dL_law_830 ?_
      exact JL_if_eq (tgt := 836) dL_law_831 (by decide) (fun _ => JL_goto (tgt := 2989) dL_law_836 (by decide) (k _ _ _ _ _ _ hI2)) (fun h => absurd (lgc_eq (by rw [hg0]; exact (lw_b1 (lb_hasCat G _) (by rw [← hz0]; exact hz1)).symm)) h)
end JCASES

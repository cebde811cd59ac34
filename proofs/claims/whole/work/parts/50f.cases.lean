/-! THE LAW: its cases -/
section JCASES
theorem lw_c40 {sN : Nat} {sF : Nat → Int32} {w : Wd} {x m o q th i kb sb : Nat} {G : Gme} {Q : Po} {l6 l7 l8 : Option Value} (hN : sN < 2 ^ 31) (hi : i + 2 < sN) (hI : LI w x m o q G G th) (k : ∀ (w' : Wd) (G' : Gme) (th' : Nat) (l6 l7 l8 : Option Value), LI w' x m o q G' G' th' → JL sN sF 40 mL_law 2989 [some (.ref 3), some (.ref x), some (.ref m), some (.ref o), some (.ref q), some (.int (nI i)), l6, l7, l8] [] w' kb sb Q) : JL sN sF 40 mL_law 2347 [some (.ref 3), some (.ref x), some (.ref m), some (.ref o), some (.ref q), some (.int (nI i)), l6, l7, l8] [] w (kb + 1) (sb + 6) Q := by
  refine JL_aload_n dL_law_2347 rfl rfl ?_
  refine JL_cls (mi := mL_law) (pc := 2348) dL_law_2348 YX8_arrivals rfl kL_300 hI (fun h => c_X8_arrivals h) rfl rfl rfl (Nat.le_of_ble_eq_true rfl) (by decide) (fun w1 hI1 => ?_)
  obtain ⟨g, hO⟩ := hI1.2.2.1
  refine JL_aload_n dL_law_2351 rfl rfl ?_
  refine JL_mod (mi := mL_law) (pc := 2352) dL_law_2352 YX9_arrivals rfl kL_303 hI1 hO (fun h => c_X9_arrivals h) rfl rfl (Nat.le_of_ble_eq_true rfl) (by decide) (fun w2 z hz hI2 hO2 => ?_)
  have hz0 := hz rfl
  exact JL_icmp_eq (tgt := 2989) dL_law_2355 (by decide) (fun _ => k _ _ _ _ _ _ hI2) (fun h => absurd hz0.symm h)
theorem lw_c41 {sN : Nat} {sF : Nat → Int32} {w : Wd} {x m o q th i kb sb : Nat} {G : Gme} {Q : Po} {l6 l7 l8 : Option Value} (hN : sN < 2 ^ 31) (hi : i + 2 < sN) (hI : LI w x m o q G G th) (k : ∀ (w' : Wd) (G' : Gme) (th' : Nat) (l6 l7 l8 : Option Value), LI w' x m o q G' G' th' → JL sN sF 40 mL_law 2989 [some (.ref 3), some (.ref x), some (.ref m), some (.ref o), some (.ref q), some (.int (nI i)), l6, l7, l8] [] w' kb sb Q) : JL sN sF 40 mL_law 2360 [some (.ref 3), some (.ref x), some (.ref m), some (.ref o), some (.ref q), some (.int (nI i)), l6, l7, l8] [] w (kb + 1) (sb + 6) Q := by
  refine JL_aload_n dL_law_2360 rfl rfl ?_
  refine JL_aload_n dL_law_2361 rfl rfl ?_
  refine JL_iload dL_law_2362 rfl ?_
  refine JL_iconst (v := nI 1) dL_law_2364 (by decide) ?_
  refine JL_iadd dL_law_2365 ?_
  refine JL_scg dL_law_2366 (scIn (by omega) hN) ?_
  refine JL_aload_n dL_law_2367 rfl rfl ?_
  refine JL_help (mi := mL_law) (pc := 2368) dL_law_2368 rfl YL_ticksUntilArrival kL_304 hI (fun g0 h1 h2 => c_L_ticksUntilArrival hI.1 h1 h2 _) rfl rfl (Nat.le_of_ble_eq_true rfl) (by decide) (fun w1 g hg h0 hI1 => ?_)
  refine JL_istore dL_law_2371 (by decide) rfl ?_
  refine JL_aload_n dL_law_2373 rfl rfl ?_
  refine JL_aload_n dL_law_2374 rfl rfl ?_
  refine JL_iload dL_law_2375 rfl ?_
  refine JL_iconst (v := nI 1) dL_law_2377 (by decide) ?_
  refine JL_iadd dL_law_2378 ?_
  refine JL_scg dL_law_2379 (scIn (by omega) hN) ?_
  refine JL_mod (mi := mL_law) (pc := 2380) dL_law_2380 YX9_ticksUntilArrival rfl kL_306 hI1 hg (fun h => c_X9_ticksUntilArrival h _) rfl rfl (Nat.le_of_ble_eq_true rfl) (by decide) (fun w2 z hz hI2 hO2 => ?_)
  refine JL_istore dL_law_2383 (by decide) rfl ?_
  refine JL_aload_n dL_law_2385 rfl rfl ?_
  refine JL_thr (mi := mL_law) (pc := 2386) dL_law_2386 YX9_thrown rfl kL_172 hI2 (fun h => c_X9_thrown h) rfl (Nat.le_of_ble_eq_true rfl) (by decide) ?_
  refine JL_iload dL_law_2389 rfl ?_
  refine JL_icmp_eq (tgt := 2396) dL_law_2391 (by decide) (fun _ => ?_) (fun h => absurd rfl h)
  refine JL_iload dL_law_2396 rfl ?_
  refine JL_if_ne (tgt := 2413) dL_law_2398 (by decide) (fun _ => ?_) (fun h => ?_)
  · exact JL_goto (tgt := 2989) dL_law_2413 (by decide) (k _ _ _ _ _ _ hI2)
  · have e0 := cod_0.mp ((nI_eq (b := 0) (cod_lt _ (by decide)) (by decide)).mp h)
    have hz0 := hz e0
    have hg0 := h0 e0
    refine JL_aload_n dL_law_2401 rfl rfl ?_
    refine JL_iconst (v := nI 0) dL_law_2402 (by decide) ?_
    refine KL_lald (v := g 0) dL_law_2403 hO2 (by decide) (by decide) rfl ?_
    refine JL_iload dL_law_2404 rfl ?_
    refine JL_i2l dL_law_2406 rfl ?_
    refine JL_lcmp dL_law_2407 ?_
    exact JL_if_eq (tgt := 2413) dL_law_2408 (by decide) (fun _ => JL_goto (tgt := 2989) dL_law_2413 (by decide) (k _ _ _ _ _ _ hI2)) (fun h => absurd (lgc_eq (by rw [hg0, hz0])) h)
theorem lw_c42 {sN : Nat} {sF : Nat → Int32} {w : Wd} {x m o q th i kb sb : Nat} {G : Gme} {Q : Po} {l6 l7 l8 : Option Value} (hN : sN < 2 ^ 31) (hi : i + 2 < sN) (hI : LI w x m o q G G th) (k : ∀ (w' : Wd) (G' : Gme) (th' : Nat) (l6 l7 l8 : Option Value), LI w' x m o q G' G' th' → JL sN sF 40 mL_law 2989 [some (.ref 3), some (.ref x), some (.ref m), some (.ref o), some (.ref q), some (.int (nI i)), l6, l7, l8] [] w' kb sb Q) : JL sN sF 40 mL_law 2416 [some (.ref 3), some (.ref x), some (.ref m), some (.ref o), some (.ref q), some (.int (nI i)), l6, l7, l8] [] w (kb + 1) (sb + 6) Q := by
  refine JL_aload_n dL_law_2416 rfl rfl ?_
  refine JL_aload dL_law_2417 rfl ?_
  refine JL_helpd (mi := mL_law) (pc := 2419) dL_law_2419 rfl YL_meanWaits kL_307 hI (fun g0 h1 h2 => c_L_meanWaits hI.1 h1 h2) rfl rfl (Nat.le_of_ble_eq_true rfl) (by decide) (fun w1 g hg h0 hI1 => ?_)
  refine JL_istore dL_law_2422 (by decide) rfl ?_
  refine JL_aload_n dL_law_2424 rfl rfl ?_
  obtain ⟨hX1, hR1, ⟨go, hO1⟩, -, ⟨i1, i2, i3⟩⟩ := id hI1
  refine JL_callV (mi := mL_law) (pc := 2425) (As := []) (kb := kb) (sb := sb) (kb' := 0) (sb' := 0) dL_law_2425 YX9_meanWaits kL_310 hR1.rc (c_X9_meanWaits hR1) rfl rfl (Nat.le_of_ble_eq_true rfl) (by decide) (fun v w2 h => ?_) (fun E w' h => absurd h (RP_no E w'))
  obtain ⟨v', e, f, hz, hnz⟩ := h
  cases e
  have hg2 := (f.1 q (by omega)).trans hg
  have hO2 := (f.1 o (by omega)).trans hO1
  have hX2 : RepX w2 x G := hX1.kp (fun b h1 h2 => f.1 b (by omega))
  by_cases e0 : sNt (gS G) = 0
  · obtain ⟨hR2, y, rfl⟩ := hz e0
    have hI2 : LI w2 x m o q G G 1 := ⟨hX2, hR2, ⟨go, hO2⟩, ⟨g, hg2⟩, i1, i2, i3⟩
    refine JL_dstore dL_law_2428 (by decide) rfl ?_
    refine JL_aload_n dL_law_2430 rfl rfl ?_
    refine JL_thr (mi := mL_law) (pc := 2431) dL_law_2431 YX9_thrown rfl kL_172 hI2 (fun h => c_X9_thrown h) rfl (Nat.le_of_ble_eq_true rfl) (by decide) ?_
    refine JL_iload dL_law_2434 rfl ?_
    refine JL_icmp_eq (tgt := 2441) dL_law_2436 (by decide) (fun _ => ?_) (fun h => absurd (by rw [if_pos e0]) h)
    refine JL_iload dL_law_2441 rfl ?_
    refine JL_if_ne (tgt := 2478) dL_law_2443 (by decide) (fun _ => ?_) (fun h => absurd h (by rw [if_pos e0]; decide))
    exact JL_goto (tgt := 2989) dL_law_2478 (by decide) (k _ _ _ _ _ _ hI2)
  · obtain ⟨hR2, rfl⟩ := hnz e0
    have hI2 : LI w2 x m o q G G 0 := ⟨hX2, hR2, ⟨go, hO2⟩, ⟨g, hg2⟩, i1, i2, i3⟩
    refine JL_dstore dL_law_2428 (by decide) rfl ?_
    refine JL_aload_n dL_law_2430 rfl rfl ?_
    refine JL_thr (mi := mL_law) (pc := 2431) dL_law_2431 YX9_thrown rfl kL_172 hI2 (fun h => c_X9_thrown h) rfl (Nat.le_of_ble_eq_true rfl) (by decide) ?_
    refine JL_iload dL_law_2434 rfl ?_
    refine JL_icmp_eq (tgt := 2441) dL_law_2436 (by decide) (fun _ => ?_) (fun h => absurd (by rw [if_neg e0]) h)
    refine JL_iload dL_law_2441 rfl ?_
    refine JL_if_ne (tgt := 2478) dL_law_2443 (by decide) (fun h => absurd (by rw [if_neg e0]; rfl) h) (fun _ => ?_)
    refine JL_aload dL_law_2446 rfl ?_
    refine JL_iconst (v := nI 0) dL_law_2448 (by decide) ?_
    refine KL_dald (v := gMean (gS G)) dL_law_2449 hg2 (by decide) (by decide) (h0 e0) ?_
    refine JL_dload dL_law_2450 rfl ?_
    refine JL_dcmp dL_law_2452 ?_
    refine JL_if_eq (tgt := 2478) dL_law_2453 (by decide) (fun _ => ?_) (fun h => absurd (dcmp_sf (mean_n hX2.2.1.wf e0)) h)
    exact JL_goto (tgt := 2989) dL_law_2478 (by decide) (k _ _ _ _ _ _ hI2)
theorem lw_c43 {sN : Nat} {sF : Nat → Int32} {w : Wd} {x m o q th i kb sb : Nat} {G : Gme} {Q : Po} {l6 l7 l8 : Option Value} (hN : sN < 2 ^ 31) (hi : i + 2 < sN) (hI : LI w x m o q G G th) (k : ∀ (w' : Wd) (G' : Gme) (th' : Nat) (l6 l7 l8 : Option Value), LI w' x m o q G' G' th' → JL sN sF 40 mL_law 2989 [some (.ref 3), some (.ref x), some (.ref m), some (.ref o), some (.ref q), some (.int (nI i)), l6, l7, l8] [] w' kb sb Q) : JL sN sF 40 mL_law 2481 [some (.ref 3), some (.ref x), some (.ref m), some (.ref o), some (.ref q), some (.int (nI i)), l6, l7, l8] [] w (kb + 1) (sb + 6) Q := by
  refine JL_aload_n dL_law_2481 rfl rfl ?_
  refine JL_aload dL_law_2482 rfl ?_
  refine JL_helpd (mi := mL_law) (pc := 2484) dL_law_2484 rfl YL_occupiedFraction kL_311 hI (fun g0 h1 h2 => c_L_occupiedFraction hI.1 h1 h2) rfl rfl (Nat.le_of_ble_eq_true rfl) (by decide) (fun w1 g hg h0 hI1 => ?_)
  refine JL_istore dL_law_2487 (by decide) rfl ?_
  refine JL_aload_n dL_law_2489 rfl rfl ?_
  obtain ⟨hX1, hR1, ⟨go, hO1⟩, -, ⟨i1, i2, i3⟩⟩ := id hI1
  refine JL_callV (mi := mL_law) (pc := 2490) (As := []) (kb := kb) (sb := sb) (kb' := 0) (sb' := 0) dL_law_2490 YX9_occupiedFraction kL_313 hR1.rc (c_X9_occupiedFraction hR1) rfl rfl (Nat.le_of_ble_eq_true rfl) (by decide) (fun v w2 h => ?_) (fun E w' h => absurd h (RP_no E w'))
  obtain ⟨v', e, f, hz, hnz⟩ := h
  cases e
  have hg2 := (f.1 q (by omega)).trans hg
  have hO2 := (f.1 o (by omega)).trans hO1
  have hX2 : RepX w2 x G := hX1.kp (fun b h1 h2 => f.1 b (by omega))
  by_cases e0 : sNb (gS G) = 0
  · obtain ⟨hR2, y, rfl⟩ := hz e0
    have hI2 : LI w2 x m o q G G 1 := ⟨hX2, hR2, ⟨go, hO2⟩, ⟨g, hg2⟩, i1, i2, i3⟩
    refine JL_fstore dL_law_2493 (by decide) rfl ?_
    refine JL_aload_n dL_law_2495 rfl rfl ?_
    refine JL_thr (mi := mL_law) (pc := 2496) dL_law_2496 YX9_thrown rfl kL_172 hI2 (fun h => c_X9_thrown h) rfl (Nat.le_of_ble_eq_true rfl) (by decide) ?_
    refine JL_iload dL_law_2499 rfl ?_
    refine JL_icmp_eq (tgt := 2506) dL_law_2501 (by decide) (fun _ => ?_) (fun h => absurd (by rw [if_pos e0]) h)
    refine JL_iload dL_law_2506 rfl ?_
    refine JL_if_ne (tgt := 2544) dL_law_2508 (by decide) (fun _ => ?_) (fun h => absurd h (by rw [if_pos e0]; decide))
    exact JL_goto (tgt := 2989) dL_law_2544 (by decide) (k _ _ _ _ _ _ hI2)
  · obtain ⟨hR2, rfl⟩ := hnz e0
    have hI2 : LI w2 x m o q G G 0 := ⟨hX2, hR2, ⟨go, hO2⟩, ⟨g, hg2⟩, i1, i2, i3⟩
    refine JL_fstore dL_law_2493 (by decide) rfl ?_
    refine JL_aload_n dL_law_2495 rfl rfl ?_
    refine JL_thr (mi := mL_law) (pc := 2496) dL_law_2496 YX9_thrown rfl kL_172 hI2 (fun h => c_X9_thrown h) rfl (Nat.le_of_ble_eq_true rfl) (by decide) ?_
    refine JL_iload dL_law_2499 rfl ?_
    refine JL_icmp_eq (tgt := 2506) dL_law_2501 (by decide) (fun _ => ?_) (fun h => absurd (by rw [if_neg e0]) h)
    refine JL_iload dL_law_2506 rfl ?_
    refine JL_if_ne (tgt := 2544) dL_law_2508 (by decide) (fun h => absurd (by rw [if_neg e0]; rfl) h) (fun _ => ?_)
    refine JL_aload dL_law_2511 rfl ?_
    refine JL_iconst (v := nI 0) dL_law_2513 (by decide) ?_
    refine KL_dald (v := FP.f2d (gOcc (gS G))) dL_law_2514 hg2 (by decide) (by decide) (h0 e0) ?_
    refine JL_fload dL_law_2515 rfl ?_
    refine JL_f2d dL_law_2517 (occ_n hX2.2.1.wf e0).2 ?_
    refine JL_dcmp dL_law_2518 ?_
    refine JL_if_eq (tgt := 2544) dL_law_2519 (by decide) (fun _ => ?_) (fun h => absurd (dcmp_sf (occ_n hX2.2.1.wf e0).2) h)
    exact JL_goto (tgt := 2989) dL_law_2544 (by decide) (k _ _ _ _ _ _ hI2)
theorem lw_c44 {sN : Nat} {sF : Nat → Int32} {w : Wd} {x m o q th i kb sb : Nat} {G : Gme} {Q : Po} {l6 l7 l8 : Option Value} (hN : sN < 2 ^ 31) (hi : i + 2 < sN) (hI : LI w x m o q G G th) (k : ∀ (w' : Wd) (G' : Gme) (th' : Nat) (l6 l7 l8 : Option Value), LI w' x m o q G' G' th' → JL sN sF 40 mL_law 2989 [some (.ref 3), some (.ref x), some (.ref m), some (.ref o), some (.ref q), some (.int (nI i)), l6, l7, l8] [] w' kb sb Q) : JL sN sF 40 mL_law 2547 [some (.ref 3), some (.ref x), some (.ref m), some (.ref o), some (.ref q), some (.int (nI i)), l6, l7, l8] [] w (kb + 1) (sb + 6) Q := by
  refine JL_aload_n dL_law_2547 rfl rfl ?_
  refine JL_aload_n dL_law_2548 rfl rfl ?_
  refine JL_iload dL_law_2549 rfl ?_
  refine JL_iconst (v := nI 1) dL_law_2551 (by decide) ?_
  refine JL_iadd dL_law_2552 ?_
  refine JL_scg dL_law_2553 (scIn (by omega) hN) ?_
  refine JL_aload_n dL_law_2554 rfl rfl ?_
  refine JL_help (mi := mL_law) (pc := 2555) dL_law_2555 rfl YL_writeTrain kL_314 hI (fun g0 h1 h2 => c_L_writeTrain hI.1 h1 h2 _) rfl rfl (Nat.le_of_ble_eq_true rfl) (by decide) (fun w1 g hg h0 hI1 => ?_)
  refine JL_istore dL_law_2558 (by decide) rfl ?_
  refine JL_aload_n dL_law_2560 rfl rfl ?_
  refine JL_aload_n dL_law_2561 rfl rfl ?_
  refine JL_iload dL_law_2562 rfl ?_
  refine JL_iconst (v := nI 1) dL_law_2564 (by decide) ?_
  refine JL_iadd dL_law_2565 ?_
  refine JL_scg dL_law_2566 (scIn (by omega) hN) ?_
  refine JL_mod (mi := mL_law) (pc := 2567) dL_law_2567 YX9_writeTrain rfl kL_316 hI1 hg (fun h => c_X9_writeTrain h _) rfl rfl (Nat.le_of_ble_eq_true rfl) (by decide) (fun w2 z hz hI2 hO2 => ?_)
  refine JL_istore dL_law_2570 (by decide) rfl ?_
  refine JL_aload_n dL_law_2572 rfl rfl ?_
  refine JL_thr (mi := mL_law) (pc := 2573) dL_law_2573 YX9_thrown rfl kL_172 hI2 (fun h => c_X9_thrown h) rfl (Nat.le_of_ble_eq_true rfl) (by decide) ?_
  refine JL_iload dL_law_2576 rfl ?_
  refine JL_icmp_eq (tgt := 2583) dL_law_2578 (by decide) (fun _ => ?_) (fun h => absurd rfl h)
  refine JL_iload dL_law_2583 rfl ?_
  refine JL_if_ne (tgt := 2600) dL_law_2585 (by decide) (fun _ => ?_) (fun h => ?_)
  · exact JL_goto (tgt := 2989) dL_law_2600 (by decide) (k _ _ _ _ _ _ hI2)
  · have e0 := cod_0.mp ((nI_eq (b := 0) (cod_lt _ (by decide)) (by decide)).mp h)
    have hz0 := hz e0
    have hg0 := h0 e0
    refine JL_aload_n dL_law_2588 rfl rfl ?_
    refine JL_iconst (v := nI 0) dL_law_2589 (by decide) ?_
    refine KL_lald (v := g 0) dL_law_2590 hO2 (by decide) (by decide) rfl ?_
    refine JL_iload dL_law_2591 rfl ?_
    refine JL_i2l dL_law_2593 rfl ?_
    refine JL_lcmp dL_law_2594 ?_
    exact JL_if_eq (tgt := 2600) dL_law_2595 (by decide) (fun _ => JL_goto (tgt := 2989) dL_law_2600 (by decide) (k _ _ _ _ _ _ hI2)) (fun h => absurd (lgc_eq (by rw [hg0, hz0])) h)
theorem lw_c45 {sN : Nat} {sF : Nat → Int32} {w : Wd} {x m o q th i kb sb : Nat} {G : Gme} {Q : Po} {l6 l7 l8 : Option Value} (hN : sN < 2 ^ 31) (hi : i + 2 < sN) (hI : LI w x m o q G G th) (k : ∀ (w' : Wd) (G' : Gme) (th' : Nat) (l6 l7 l8 : Option Value), LI w' x m o q G' G' th' → JL sN sF 40 mL_law 2989 [some (.ref 3), some (.ref x), some (.ref m), some (.ref o), some (.ref q), some (.int (nI i)), l6, l7, l8] [] w' kb sb Q) : JL sN sF 40 mL_law 2603 [some (.ref 3), some (.ref x), some (.ref m), some (.ref o), some (.ref q), some (.int (nI i)), l6, l7, l8] [] w (kb + 1) (sb + 6) Q := by
  refine JL_aload_n dL_law_2603 rfl rfl ?_
  refine JL_cls (mi := mL_law) (pc := 2604) dL_law_2604 YX8_writeSignals rfl kL_317 hI (fun h => c_X8_writeSignals h) rfl rfl rfl (Nat.le_of_ble_eq_true rfl) (by decide) (fun w1 hI1 => ?_)
  obtain ⟨g, hO⟩ := hI1.2.2.1
  refine JL_aload_n dL_law_2607 rfl rfl ?_
  refine JL_mod (mi := mL_law) (pc := 2608) dL_law_2608 YX9_writeSignals rfl kL_320 hI1 hO (fun h => c_X9_writeSignals h) rfl rfl (Nat.le_of_ble_eq_true rfl) (by decide) (fun w2 z hz hI2 hO2 => ?_)
  have hz0 := hz rfl
  exact JL_icmp_eq (tgt := 2989) dL_law_2611 (by decide) (fun _ => k _ _ _ _ _ _ hI2) (fun h => absurd hz0.symm h)
theorem lw_c46 {sN : Nat} {sF : Nat → Int32} {w : Wd} {x m o q th i kb sb : Nat} {G : Gme} {Q : Po} {l6 l7 l8 : Option Value} (hN : sN < 2 ^ 31) (hi : i + 2 < sN) (hI : LI w x m o q G G th) (k : ∀ (w' : Wd) (G' : Gme) (th' : Nat) (l6 l7 l8 : Option Value), LI w' x m o q G' G' th' → JL sN sF 40 mL_law 2989 [some (.ref 3), some (.ref x), some (.ref m), some (.ref o), some (.ref q), some (.int (nI i)), l6, l7, l8] [] w' kb sb Q) : JL sN sF 40 mL_law 2616 [some (.ref 3), some (.ref x), some (.ref m), some (.ref o), some (.ref q), some (.int (nI i)), l6, l7, l8] [] w (kb + 1) (sb + 6) Q := by
  refine JL_aload_n dL_law_2616 rfl rfl ?_
  refine JL_aload_n dL_law_2617 rfl rfl ?_
  refine JL_iload dL_law_2618 rfl ?_
  refine JL_iconst (v := nI 1) dL_law_2620 (by decide) ?_
  refine JL_iadd dL_law_2621 ?_
  refine JL_scg dL_law_2622 (scIn (by omega) hN) ?_
  refine JL_aload_n dL_law_2623 rfl rfl ?_
  refine JL_help (mi := mL_law) (pc := 2624) dL_law_2624 rfl YL_outputCharacter kL_321 hI (fun g0 h1 h2 => c_L_outputCharacter hI.1 h1 h2 _) rfl rfl (Nat.le_of_ble_eq_true rfl) (by decide) (fun w1 g hg h0 hI1 => ?_)
  refine JL_istore dL_law_2627 (by decide) rfl ?_
  refine JL_aload_n dL_law_2629 rfl rfl ?_
  refine JL_aload_n dL_law_2630 rfl rfl ?_
  refine JL_iload dL_law_2631 rfl ?_
  refine JL_iconst (v := nI 1) dL_law_2633 (by decide) ?_
  refine JL_iadd dL_law_2634 ?_
  refine JL_scg dL_law_2635 (scIn (by omega) hN) ?_
  refine JL_mod (mi := mL_law) (pc := 2636) dL_law_2636 YX9_outputCharacter rfl kL_323 hI1 hg (fun h => c_X9_outputCharacter h _) rfl rfl (Nat.le_of_ble_eq_true rfl) (by decide) (fun w2 z hz hI2 hO2 => ?_)
  refine JL_istore dL_law_2639 (by decide) rfl ?_
  refine JL_aload_n dL_law_2641 rfl rfl ?_
  refine JL_thr (mi := mL_law) (pc := 2642) dL_law_2642 YX9_thrown rfl kL_172 hI2 (fun h => c_X9_thrown h) rfl (Nat.le_of_ble_eq_true rfl) (by decide) ?_
  refine JL_iload dL_law_2645 rfl ?_
  refine JL_icmp_eq (tgt := 2652) dL_law_2647 (by decide) (fun _ => ?_) (fun h => absurd rfl h)
  refine JL_iload dL_law_2652 rfl ?_
  refine JL_if_ne (tgt := 2669) dL_law_2654 (by decide) (fun _ => ?_) (fun h => ?_)
  · exact JL_goto (tgt := 2989) dL_law_2669 (by decide) (k _ _ _ _ _ _ hI2)
  · have e0 := cod_0.mp ((nI_eq (b := 0) (cod_lt _ (by decide)) (by decide)).mp h)
    have hz0 := hz e0
    have hg0 := h0 e0
    refine JL_aload_n dL_law_2657 rfl rfl ?_
    refine JL_iconst (v := nI 0) dL_law_2658 (by decide) ?_
    refine KL_lald (v := g 0) dL_law_2659 hO2 (by decide) (by decide) rfl ?_
    refine JL_iload dL_law_2660 rfl ?_
    refine JL_i2l dL_law_2662 rfl ?_
    refine JL_lcmp dL_law_2663 ?_
    exact JL_if_eq (tgt := 2669) dL_law_2664 (by decide) (fun _ => JL_goto (tgt := 2989) dL_law_2669 (by decide) (k _ _ _ _ _ _ hI2)) (fun h => absurd (lgc_eq (by rw [hg0, hz0])) h)
theorem lw_c47 {sN : Nat} {sF : Nat → Int32} {w : Wd} {x m o q th i kb sb : Nat} {G : Gme} {Q : Po} {l6 l7 l8 : Option Value} (hN : sN < 2 ^ 31) (hi : i + 2 < sN) (hI : LI w x m o q G G th) (k : ∀ (w' : Wd) (G' : Gme) (th' : Nat) (l6 l7 l8 : Option Value), LI w' x m o q G' G' th' → JL sN sF 40 mL_law 2989 [some (.ref 3), some (.ref x), some (.ref m), some (.ref o), some (.ref q), some (.int (nI i)), l6, l7, l8] [] w' kb sb Q) : JL sN sF 40 mL_law 2672 [some (.ref 3), some (.ref x), some (.ref m), some (.ref o), some (.ref q), some (.int (nI i)), l6, l7, l8] [] w (kb + 1) (sb + 6) Q := by
  refine JL_aload_n dL_law_2672 rfl rfl ?_
  refine JL_cls (mi := mL_law) (pc := 2673) dL_law_2673 YX8_isConsistent rfl kL_324 hI (fun h => c_X8_isConsistent h) rfl rfl rfl (Nat.le_of_ble_eq_true rfl) (by decide) (fun w1 hI1 => ?_)
  obtain ⟨g, hO⟩ := hI1.2.2.1
  refine JL_aload_n dL_law_2676 rfl rfl ?_
  refine JL_mod (mi := mL_law) (pc := 2677) dL_law_2677 YX9_isConsistent rfl kL_328 hI1 hO (fun h => c_X9_isConsistent h) rfl rfl (Nat.le_of_ble_eq_true rfl) (by decide) (fun w2 z hz hI2 hO2 => ?_)
  have hz0 := hz rfl
  exact JL_icmp_eq (tgt := 2989) dL_law_2680 (by decide) (fun _ => k _ _ _ _ _ _ hI2) (fun h => absurd hz0.symm h)
theorem lw_c48 {sN : Nat} {sF : Nat → Int32} {w : Wd} {x m o q th i kb sb : Nat} {G : Gme} {Q : Po} {l6 l7 l8 : Option Value} (hN : sN < 2 ^ 31) (hi : i + 2 < sN) (hI : LI w x m o q G G th) (k : ∀ (w' : Wd) (G' : Gme) (th' : Nat) (l6 l7 l8 : Option Value), LI w' x m o q G' G' th' → JL sN sF 40 mL_law 2989 [some (.ref 3), some (.ref x), some (.ref m), some (.ref o), some (.ref q), some (.int (nI i)), l6, l7, l8] [] w' kb sb Q) : JL sN sF 40 mL_law 2685 [some (.ref 3), some (.ref x), some (.ref m), some (.ref o), some (.ref q), some (.int (nI i)), l6, l7, l8] [] w (kb + 1) (sb + 6) Q := by
  obtain ⟨c, hc, hce⟩ := i2c_ex (sF (nI i + nI 1).toNatClampNeg)
  refine JL_aload_n dL_law_2685 rfl rfl ?_
  refine JL_aload_n dL_law_2686 rfl rfl ?_
  refine JL_iload dL_law_2687 rfl ?_
  refine JL_iconst (v := nI 1) dL_law_2689 (by decide) ?_
  refine JL_iadd dL_law_2690 ?_
  refine JL_scg dL_law_2691 (scIn (by omega) hN) ?_
  refine JL_i2c dL_law_2692 hce ?_
  refine JL_aload_n dL_law_2693 rfl rfl ?_
  refine JL_help (mi := mL_law) (pc := 2694) dL_law_2694 rfl YL_feed kL_329 hI (fun g0 h1 h2 => c_L_feed hI.1 h1 h2 hc) rfl rfl (Nat.le_of_ble_eq_true rfl) (by decide) (fun w1 g hg h0 hI1 => ?_)
  refine JL_istore dL_law_2697 (by decide) rfl ?_
  refine JL_aload_n dL_law_2699 rfl rfl ?_
  refine JL_aload_n dL_law_2700 rfl rfl ?_
  refine JL_iload dL_law_2701 rfl ?_
  refine JL_iconst (v := nI 1) dL_law_2703 (by decide) ?_
  refine JL_iadd dL_law_2704 ?_
  refine JL_scg dL_law_2705 (scIn (by omega) hN) ?_
  refine JL_i2c dL_law_2706 hce ?_
  refine JL_mod (mi := mL_law) (pc := 2707) dL_law_2707 YX9_feed rfl kL_332 hI1 hg (fun h => c_X9_feed h hc) rfl rfl (Nat.le_of_ble_eq_true rfl) (by decide) (fun w2 z hz hI2 hO2 => ?_)
  refine JL_istore dL_law_2710 (by decide) rfl ?_
  refine JL_aload_n dL_law_2712 rfl rfl ?_
  refine JL_thr (mi := mL_law) (pc := 2713) dL_law_2713 YX9_thrown rfl kL_172 hI2 (fun h => c_X9_thrown h) rfl (Nat.le_of_ble_eq_true rfl) (by decide) ?_
  refine JL_iload dL_law_2716 rfl ?_
  refine JL_icmp_eq (tgt := 2723) dL_law_2718 (by decide) (fun _ => ?_) (fun h => absurd rfl h)
  refine JL_iload dL_law_2723 rfl ?_
  refine JL_if_ne (tgt := 2740) dL_law_2725 (by decide) (fun _ => ?_) (fun h => ?_)
  · exact JL_goto (tgt := 2989) dL_law_2740 (by decide) (k _ _ _ _ _ _ hI2)
  · have e0 := cod_0.mp ((nI_eq (b := 0) (cod_lt _ (by decide)) (by decide)).mp h)
    have hz0 := hz e0
    have hg0 := h0 e0
    refine JL_aload_n dL_law_2728 rfl rfl ?_
    refine JL_iconst (v := nI 0) dL_law_2729 (by decide) ?_
    refine KL_lald (v := g 0) dL_law_2730 hO2 (by decide) (by decide) rfl ?_
    refine JL_iload dL_law_2731 rfl ?_
    refine JL_i2l dL_law_2733 rfl ?_
    refine JL_lcmp dL_law_2734 ?_
    exact JL_if_eq (tgt := 2740) dL_law_2735 (by decide) (fun _ => JL_goto (tgt := 2989) dL_law_2740 (by decide) (k _ _ _ _ _ _ hI2)) (fun h => absurd (lgc_eq (by rw [hg0, hz0])) h)
theorem lw_c49 {sN : Nat} {sF : Nat → Int32} {w : Wd} {x m o q th i kb sb : Nat} {G : Gme} {Q : Po} {l6 l7 l8 : Option Value} (hN : sN < 2 ^ 31) (hi : i + 2 < sN) (hI : LI w x m o q G G th) (k : ∀ (w' : Wd) (G' : Gme) (th' : Nat) (l6 l7 l8 : Option Value), LI w' x m o q G' G' th' → JL sN sF 40 mL_law 2989 [some (.ref 3), some (.ref x), some (.ref m), some (.ref o), some (.ref q), some (.int (nI i)), l6, l7, l8] [] w' kb sb Q) : JL sN sF 40 mL_law 2743 [some (.ref 3), some (.ref x), some (.ref m), some (.ref o), some (.ref q), some (.int (nI i)), l6, l7, l8] [] w (kb + 1) (sb + 6) Q := by
  refine JL_aload_n dL_law_2743 rfl rfl ?_
  refine JL_aload_n dL_law_2744 rfl rfl ?_
  refine JL_help (mi := mL_law) (pc := 2745) dL_law_2745 rfl YL_execute kL_333 hI (fun g0 h1 h2 => c_L_execute hI.1 h1 h2) rfl rfl (Nat.le_of_ble_eq_true rfl) (by decide) (fun w1 g hg h0 hI1 => ?_)
  refine JL_istore dL_law_2748 (by decide) rfl ?_
  refine JL_aload_n dL_law_2750 rfl rfl ?_
  refine JL_mod (mi := mL_law) (pc := 2751) dL_law_2751 YX9_execute rfl kL_336 hI1 hg (fun h => c_X9_execute h) rfl rfl (Nat.le_of_ble_eq_true rfl) (by decide) (fun w2 z hz hI2 hO2 => ?_)
  refine JL_istore dL_law_2754 (by decide) rfl ?_
  refine JL_aload_n dL_law_2756 rfl rfl ?_
  refine JL_thr (mi := mL_law) (pc := 2757) dL_law_2757 YX9_thrown rfl kL_172 hI2 (fun h => c_X9_thrown h) rfl (Nat.le_of_ble_eq_true rfl) (by decide) ?_
  refine JL_iload dL_law_2760 rfl ?_
  refine JL_icmp_eq (tgt := 2767) dL_law_2762 (by decide) (fun _ => ?_) (fun h => absurd rfl h)
  refine JL_iload dL_law_2767 rfl ?_
  refine JL_if_ne (tgt := 2784) dL_law_2769 (by decide) (fun _ => ?_) (fun h => ?_)
  · exact JL_goto (tgt := 2989) dL_law_2784 (by decide) (k _ _ _ _ _ _ hI2)
  · have e0 := cod_0.mp ((nI_eq (b := 0) (cod_lt _ (by decide)) (by decide)).mp h)
    have hz0 := hz e0
    have hg0 := h0 e0
    refine JL_aload_n dL_law_2772 rfl rfl ?_
    refine JL_iconst (v := nI 0) dL_law_2773 (by decide) ?_
    refine KL_lald (v := g 0) dL_law_2774 hO2 (by decide) (by decide) rfl ?_
    refine JL_iload dL_law_2775 rfl ?_
    refine JL_i2l dL_law_2777 rfl ?_
    refine JL_lcmp dL_law_2778 ?_
    exact JL_if_eq (tgt := 2784) dL_law_2779 (by decide) (fun _ => JL_goto (tgt := 2989) dL_law_2784 (by decide) (k _ _ _ _ _ _ hI2)) (fun h => absurd (lgc_eq (by rw [hg0, hz0])) h)
end JCASES

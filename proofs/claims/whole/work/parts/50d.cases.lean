/-! THE LAW: its cases -/
section JCASES
theorem lw_c20 {sN : Nat} {sF : Nat → Int32} {w : Wd} {x m o q th i kb sb : Nat} {G : Gme} {Q : Po} {l6 l7 l8 : Option Value} (hN : sN < 2 ^ 31) (hi : i + 2 < sN) (hI : LI w x m o q G G th) (k : ∀ (w' : Wd) (G' : Gme) (th' : Nat) (l6 l7 l8 : Option Value), LI w' x m o q G' G' th' → JL sN sF 40 mL_law 2989 [some (.ref 3), some (.ref x), some (.ref m), some (.ref o), some (.ref q), some (.int (nI i)), l6, l7, l8] [] w' kb sb Q) : JL sN sF 40 mL_law 1356 [some (.ref 3), some (.ref x), some (.ref m), some (.ref o), some (.ref q), some (.int (nI i)), l6, l7, l8] [] w (kb + 1) (sb + 6) Q := by
  refine JL_aload_n dL_law_1356 rfl rfl ?_
  refine JL_aload_n dL_law_1357 rfl rfl ?_
  refine JL_iload dL_law_1358 rfl ?_
  refine JL_iconst (v := nI 1) dL_law_1360 (by decide) ?_
  refine JL_iadd dL_law_1361 ?_
  refine JL_scg dL_law_1362 (scIn (by omega) hN) ?_
  refine JL_aload_n dL_law_1363 rfl rfl ?_
  refine JL_help (mi := mL_law) (pc := 1364) dL_law_1364 rfl YL_nearestCushion kL_236 hI (fun g0 h1 h2 => c_L_nearestCushion hI.1 h1 h2 _) rfl rfl (Nat.le_of_ble_eq_true rfl) (by decide) (fun w1 g hg h0 hI1 => ?_)
  refine JL_istore dL_law_1367 (by decide) rfl ?_
  refine JL_aload_n dL_law_1369 rfl rfl ?_
  refine JL_aload_n dL_law_1370 rfl rfl ?_
  refine JL_iload dL_law_1371 rfl ?_
  refine JL_iconst (v := nI 1) dL_law_1373 (by decide) ?_
  refine JL_iadd dL_law_1374 ?_
  refine JL_scg dL_law_1375 (scIn (by omega) hN) ?_
  refine JL_mod (mi := mL_law) (pc := 1376) dL_law_1376 YX9_nearestCushion rfl kL_238 hI1 hg (fun h => c_X9_nearestCushion h _) rfl rfl (Nat.le_of_ble_eq_true rfl) (by decide) (fun w2 z hz hI2 hO2 => ?_)
  refine JL_istore dL_law_1379 (by decide) rfl ?_
  refine JL_aload_n dL_law_1381 rfl rfl ?_
  refine JL_thr (mi := mL_law) (pc := 1382) dL_law_1382 YX9_thrown rfl kL_172 hI2 (fun h => c_X9_thrown h) rfl (Nat.le_of_ble_eq_true rfl) (by decide) ?_
  refine JL_iload dL_law_1385 rfl ?_
  refine JL_icmp_eq (tgt := 1392) dL_law_1387 (by decide) (fun _ => ?_) (fun h => absurd rfl h)
  refine JL_iload dL_law_1392 rfl ?_
  refine JL_if_ne (tgt := 1409) dL_law_1394 (by decide) (fun _ => ?_) (fun h => ?_)
  · exact JL_goto (tgt := 2989) dL_law_1409 (by decide) (k _ _ _ _ _ _ hI2)
  · have e0 := cod_0.mp ((nI_eq (b := 0) (cod_lt _ (by decide)) (by decide)).mp h)
    have hz0 := hz e0
    have hg0 := h0 e0
    refine JL_aload_n dL_law_1397 rfl rfl ?_
    refine JL_iconst (v := nI 0) dL_law_1398 (by decide) ?_
    refine KL_lald (v := g 0) dL_law_1399 hO2 (by decide) (by decide) rfl ?_
    refine JL_iload dL_law_1400 rfl ?_
    refine JL_i2l dL_law_1402 rfl ?_
    refine JL_lcmp dL_law_1403 ?_
    exact JL_if_eq (tgt := 1409) dL_law_1404 (by decide) (fun _ => JL_goto (tgt := 2989) dL_law_1409 (by decide) (k _ _ _ _ _ _ hI2)) (fun h => absurd (lgc_eq (by rw [hg0, hz0])) h)
theorem lw_c21 {sN : Nat} {sF : Nat → Int32} {w : Wd} {x m o q th i kb sb : Nat} {G : Gme} {Q : Po} {l6 l7 l8 : Option Value} (hN : sN < 2 ^ 31) (hi : i + 2 < sN) (hI : LI w x m o q G G th) (k : ∀ (w' : Wd) (G' : Gme) (th' : Nat) (l6 l7 l8 : Option Value), LI w' x m o q G' G' th' → JL sN sF 40 mL_law 2989 [some (.ref 3), some (.ref x), some (.ref m), some (.ref o), some (.ref q), some (.int (nI i)), l6, l7, l8] [] w' kb sb Q) : JL sN sF 40 mL_law 1412 [some (.ref 3), some (.ref x), some (.ref m), some (.ref o), some (.ref q), some (.int (nI i)), l6, l7, l8] [] w (kb + 1) (sb + 6) Q := by
  refine JL_aload_n dL_law_1412 rfl rfl ?_
  refine JL_aload_n dL_law_1413 rfl rfl ?_
  refine JL_iload dL_law_1414 rfl ?_
  refine JL_iconst (v := nI 1) dL_law_1416 (by decide) ?_
  refine JL_iadd dL_law_1417 ?_
  refine JL_scg dL_law_1418 (scIn (by omega) hN) ?_
  refine JL_aload_n dL_law_1419 rfl rfl ?_
  refine JL_iload dL_law_1420 rfl ?_
  refine JL_iconst (v := nI 2) dL_law_1422 (by decide) ?_
  refine JL_iadd dL_law_1423 ?_
  refine JL_scg dL_law_1424 (scIn (by omega) hN) ?_
  refine JL_aload_n dL_law_1425 rfl rfl ?_
  refine JL_help (mi := mL_law) (pc := 1426) dL_law_1426 rfl YL_addTrain kL_239 hI (fun g0 h1 h2 => c_L_addTrain hI.1 h1 h2 _ _) rfl rfl (Nat.le_of_ble_eq_true rfl) (by decide) (fun w1 g hg h0 hI1 => ?_)
  refine JL_istore dL_law_1429 (by decide) rfl ?_
  refine JL_aload_n dL_law_1431 rfl rfl ?_
  refine JL_aload_n dL_law_1432 rfl rfl ?_
  refine JL_iload dL_law_1433 rfl ?_
  refine JL_iconst (v := nI 1) dL_law_1435 (by decide) ?_
  refine JL_iadd dL_law_1436 ?_
  refine JL_scg dL_law_1437 (scIn (by omega) hN) ?_
  refine JL_aload_n dL_law_1438 rfl rfl ?_
  refine JL_iload dL_law_1439 rfl ?_
  refine JL_iconst (v := nI 2) dL_law_1441 (by decide) ?_
  refine JL_iadd dL_law_1442 ?_
  refine JL_scg dL_law_1443 (scIn (by omega) hN) ?_
  refine JL_mod (mi := mL_law) (pc := 1444) dL_law_1444 YX9_addTrain rfl kL_241 hI1 hg (fun h => c_X9_addTrain h _ _) rfl rfl (Nat.le_of_ble_eq_true rfl) (by decide) (fun w2 z hz hI2 hO2 => ?_)
  refine JL_istore dL_law_1447 (by decide) rfl ?_
  refine JL_aload_n dL_law_1449 rfl rfl ?_
  refine JL_thr (mi := mL_law) (pc := 1450) dL_law_1450 YX9_thrown rfl kL_172 hI2 (fun h => c_X9_thrown h) rfl (Nat.le_of_ble_eq_true rfl) (by decide) ?_
  refine JL_iload dL_law_1453 rfl ?_
  refine JL_icmp_eq (tgt := 1460) dL_law_1455 (by decide) (fun _ => ?_) (fun h => absurd rfl h)
  refine JL_iload dL_law_1460 rfl ?_
  refine JL_if_ne (tgt := 1477) dL_law_1462 (by decide) (fun _ => ?_) (fun h => ?_)
  · exact JL_goto (tgt := 2989) dL_law_1477 (by decide) (k _ _ _ _ _ _ hI2)
  · have e0 := cod_0.mp ((nI_eq (b := 0) (cod_lt _ (by decide)) (by decide)).mp h)
    have hz0 := hz e0
    have hg0 := h0 e0
    refine JL_aload_n dL_law_1465 rfl rfl ?_
    refine JL_iconst (v := nI 0) dL_law_1466 (by decide) ?_
    refine KL_lald (v := g 0) dL_law_1467 hO2 (by decide) (by decide) rfl ?_
    refine JL_iload dL_law_1468 rfl ?_
    refine JL_i2l dL_law_1470 rfl ?_
    refine JL_lcmp dL_law_1471 ?_
    exact JL_if_eq (tgt := 1477) dL_law_1472 (by decide) (fun _ => JL_goto (tgt := 2989) dL_law_1477 (by decide) (k _ _ _ _ _ _ hI2)) (fun h => absurd (lgc_eq (by rw [hg0, hz0])) h)
theorem lw_c22 {sN : Nat} {sF : Nat → Int32} {w : Wd} {x m o q th i kb sb : Nat} {G : Gme} {Q : Po} {l6 l7 l8 : Option Value} (hN : sN < 2 ^ 31) (hi : i + 2 < sN) (hI : LI w x m o q G G th) (k : ∀ (w' : Wd) (G' : Gme) (th' : Nat) (l6 l7 l8 : Option Value), LI w' x m o q G' G' th' → JL sN sF 40 mL_law 2989 [some (.ref 3), some (.ref x), some (.ref m), some (.ref o), some (.ref q), some (.int (nI i)), l6, l7, l8] [] w' kb sb Q) : JL sN sF 40 mL_law 1480 [some (.ref 3), some (.ref x), some (.ref m), some (.ref o), some (.ref q), some (.int (nI i)), l6, l7, l8] [] w (kb + 1) (sb + 6) Q := by
  refine JL_aload_n dL_law_1480 rfl rfl ?_
  refine JL_aload_n dL_law_1481 rfl rfl ?_
  refine JL_iload dL_law_1482 rfl ?_
  refine JL_iconst (v := nI 1) dL_law_1484 (by decide) ?_
  refine JL_iadd dL_law_1485 ?_
  refine JL_scg dL_law_1486 (scIn (by omega) hN) ?_
  refine JL_aload_n dL_law_1487 rfl rfl ?_
  refine JL_iload dL_law_1488 rfl ?_
  refine JL_iconst (v := nI 2) dL_law_1490 (by decide) ?_
  refine JL_iadd dL_law_1491 ?_
  refine JL_scg dL_law_1492 (scIn (by omega) hN) ?_
  refine JL_aload_n dL_law_1493 rfl rfl ?_
  refine JL_help (mi := mL_law) (pc := 1494) dL_law_1494 rfl YL_setGoal kL_242 hI (fun g0 h1 h2 => c_L_setGoal hI.1 h1 h2 _ _) rfl rfl (Nat.le_of_ble_eq_true rfl) (by decide) (fun w1 g hg h0 hI1 => ?_)
  refine JL_istore dL_law_1497 (by decide) rfl ?_
  refine JL_aload_n dL_law_1499 rfl rfl ?_
  refine JL_aload_n dL_law_1500 rfl rfl ?_
  refine JL_iload dL_law_1501 rfl ?_
  refine JL_iconst (v := nI 1) dL_law_1503 (by decide) ?_
  refine JL_iadd dL_law_1504 ?_
  refine JL_scg dL_law_1505 (scIn (by omega) hN) ?_
  refine JL_aload_n dL_law_1506 rfl rfl ?_
  refine JL_iload dL_law_1507 rfl ?_
  refine JL_iconst (v := nI 2) dL_law_1509 (by decide) ?_
  refine JL_iadd dL_law_1510 ?_
  refine JL_scg dL_law_1511 (scIn (by omega) hN) ?_
  refine JL_mod (mi := mL_law) (pc := 1512) dL_law_1512 YX9_setGoal rfl kL_244 hI1 hg (fun h => c_X9_setGoal h _ _) rfl rfl (Nat.le_of_ble_eq_true rfl) (by decide) (fun w2 z hz hI2 hO2 => ?_)
  refine JL_istore dL_law_1515 (by decide) rfl ?_
  refine JL_aload_n dL_law_1517 rfl rfl ?_
  refine JL_thr (mi := mL_law) (pc := 1518) dL_law_1518 YX9_thrown rfl kL_172 hI2 (fun h => c_X9_thrown h) rfl (Nat.le_of_ble_eq_true rfl) (by decide) ?_
  refine JL_iload dL_law_1521 rfl ?_
  refine JL_icmp_eq (tgt := 1528) dL_law_1523 (by decide) (fun _ => ?_) (fun h => absurd rfl h)
  refine JL_iload dL_law_1528 rfl ?_
  refine JL_if_ne (tgt := 1545) dL_law_1530 (by decide) (fun _ => ?_) (fun h => ?_)
  · exact JL_goto (tgt := 2989) dL_law_1545 (by decide) (k _ _ _ _ _ _ hI2)
  · have e0 := cod_0.mp ((nI_eq (b := 0) (cod_lt _ (by decide)) (by decide)).mp h)
    have hz0 := hz e0
    have hg0 := h0 e0
    refine JL_aload_n dL_law_1533 rfl rfl ?_
    refine JL_iconst (v := nI 0) dL_law_1534 (by decide) ?_
    refine KL_lald (v := g 0) dL_law_1535 hO2 (by decide) (by decide) rfl ?_
    refine JL_iload dL_law_1536 rfl ?_
    refine JL_i2l dL_law_1538 rfl ?_
    refine JL_lcmp dL_law_1539 ?_
    exact JL_if_eq (tgt := 1545) dL_law_1540 (by decide) (fun _ => JL_goto (tgt := 2989) dL_law_1545 (by decide) (k _ _ _ _ _ _ hI2)) (fun h => absurd (lgc_eq (by rw [hg0, hz0])) h)
theorem lw_c23 {sN : Nat} {sF : Nat → Int32} {w : Wd} {x m o q th i kb sb : Nat} {G : Gme} {Q : Po} {l6 l7 l8 : Option Value} (hN : sN < 2 ^ 31) (hi : i + 2 < sN) (hI : LI w x m o q G G th) (k : ∀ (w' : Wd) (G' : Gme) (th' : Nat) (l6 l7 l8 : Option Value), LI w' x m o q G' G' th' → JL sN sF 40 mL_law 2989 [some (.ref 3), some (.ref x), some (.ref m), some (.ref o), some (.ref q), some (.int (nI i)), l6, l7, l8] [] w' kb sb Q) : JL sN sF 40 mL_law 1548 [some (.ref 3), some (.ref x), some (.ref m), some (.ref o), some (.ref q), some (.int (nI i)), l6, l7, l8] [] w (kb + 1) (sb + 6) Q := by
  refine JL_aload_n dL_law_1548 rfl rfl ?_
  refine JL_aload_n dL_law_1549 rfl rfl ?_
  refine JL_iload dL_law_1550 rfl ?_
  refine JL_iconst (v := nI 1) dL_law_1552 (by decide) ?_
  refine JL_iadd dL_law_1553 ?_
  refine JL_scg dL_law_1554 (scIn (by omega) hN) ?_
  refine JL_aload_n dL_law_1555 rfl rfl ?_
  refine JL_help (mi := mL_law) (pc := 1556) dL_law_1556 rfl YL_clearGoal kL_245 hI (fun g0 h1 h2 => c_L_clearGoal hI.1 h1 h2 _) rfl rfl (Nat.le_of_ble_eq_true rfl) (by decide) (fun w1 g hg h0 hI1 => ?_)
  refine JL_istore dL_law_1559 (by decide) rfl ?_
  refine JL_aload_n dL_law_1561 rfl rfl ?_
  refine JL_aload_n dL_law_1562 rfl rfl ?_
  refine JL_iload dL_law_1563 rfl ?_
  refine JL_iconst (v := nI 1) dL_law_1565 (by decide) ?_
  refine JL_iadd dL_law_1566 ?_
  refine JL_scg dL_law_1567 (scIn (by omega) hN) ?_
  refine JL_mod (mi := mL_law) (pc := 1568) dL_law_1568 YX9_clearGoal rfl kL_247 hI1 hg (fun h => c_X9_clearGoal h _) rfl rfl (Nat.le_of_ble_eq_true rfl) (by decide) (fun w2 z hz hI2 hO2 => ?_)
  refine JL_istore dL_law_1571 (by decide) rfl ?_
  refine JL_aload_n dL_law_1573 rfl rfl ?_
  refine JL_thr (mi := mL_law) (pc := 1574) dL_law_1574 YX9_thrown rfl kL_172 hI2 (fun h => c_X9_thrown h) rfl (Nat.le_of_ble_eq_true rfl) (by decide) ?_
  refine JL_iload dL_law_1577 rfl ?_
  refine JL_icmp_eq (tgt := 1584) dL_law_1579 (by decide) (fun _ => ?_) (fun h => absurd rfl h)
  refine JL_iload dL_law_1584 rfl ?_
  refine JL_if_ne (tgt := 1601) dL_law_1586 (by decide) (fun _ => ?_) (fun h => ?_)
  · exact JL_goto (tgt := 2989) dL_law_1601 (by decide) (k _ _ _ _ _ _ hI2)
  · have e0 := cod_0.mp ((nI_eq (b := 0) (cod_lt _ (by decide)) (by decide)).mp h)
    have hz0 := hz e0
    have hg0 := h0 e0
    refine JL_aload_n dL_law_1589 rfl rfl ?_
    refine JL_iconst (v := nI 0) dL_law_1590 (by decide) ?_
    refine KL_lald (v := g 0) dL_law_1591 hO2 (by decide) (by decide) rfl ?_
    refine JL_iload dL_law_1592 rfl ?_
    refine JL_i2l dL_law_1594 rfl ?_
    refine JL_lcmp dL_law_1595 ?_
    exact JL_if_eq (tgt := 1601) dL_law_1596 (by decide) (fun _ => JL_goto (tgt := 2989) dL_law_1601 (by decide) (k _ _ _ _ _ _ hI2)) (fun h => absurd (lgc_eq (by rw [hg0, hz0])) h)
theorem lw_c24 {sN : Nat} {sF : Nat → Int32} {w : Wd} {x m o q th i kb sb : Nat} {G : Gme} {Q : Po} {l6 l7 l8 : Option Value} (hN : sN < 2 ^ 31) (hi : i + 2 < sN) (hI : LI w x m o q G G th) (k : ∀ (w' : Wd) (G' : Gme) (th' : Nat) (l6 l7 l8 : Option Value), LI w' x m o q G' G' th' → JL sN sF 40 mL_law 2989 [some (.ref 3), some (.ref x), some (.ref m), some (.ref o), some (.ref q), some (.int (nI i)), l6, l7, l8] [] w' kb sb Q) : JL sN sF 40 mL_law 1604 [some (.ref 3), some (.ref x), some (.ref m), some (.ref o), some (.ref q), some (.int (nI i)), l6, l7, l8] [] w (kb + 1) (sb + 6) Q := by
  refine JL_aload_n dL_law_1604 rfl rfl ?_
  refine JL_aload_n dL_law_1605 rfl rfl ?_
  refine JL_iload dL_law_1606 rfl ?_
  refine JL_iconst (v := nI 1) dL_law_1608 (by decide) ?_
  refine JL_iadd dL_law_1609 ?_
  refine JL_scg dL_law_1610 (scIn (by omega) hN) ?_
  refine JL_aload_n dL_law_1611 rfl rfl ?_
  refine JL_iload dL_law_1612 rfl ?_
  refine JL_iconst (v := nI 2) dL_law_1614 (by decide) ?_
  refine JL_iadd dL_law_1615 ?_
  refine JL_scg dL_law_1616 (scIn (by omega) hN) ?_
  refine JL_aload_n dL_law_1617 rfl rfl ?_
  refine JL_help (mi := mL_law) (pc := 1618) dL_law_1618 rfl YL_reserve kL_248 hI (fun g0 h1 h2 => c_L_reserve hI.1 h1 h2 _ _) rfl rfl (Nat.le_of_ble_eq_true rfl) (by decide) (fun w1 g hg h0 hI1 => ?_)
  refine JL_istore dL_law_1621 (by decide) rfl ?_
  refine JL_aload_n dL_law_1623 rfl rfl ?_
  refine JL_aload_n dL_law_1624 rfl rfl ?_
  refine JL_iload dL_law_1625 rfl ?_
  refine JL_iconst (v := nI 1) dL_law_1627 (by decide) ?_
  refine JL_iadd dL_law_1628 ?_
  refine JL_scg dL_law_1629 (scIn (by omega) hN) ?_
  refine JL_aload_n dL_law_1630 rfl rfl ?_
  refine JL_iload dL_law_1631 rfl ?_
  refine JL_iconst (v := nI 2) dL_law_1633 (by decide) ?_
  refine JL_iadd dL_law_1634 ?_
  refine JL_scg dL_law_1635 (scIn (by omega) hN) ?_
  refine JL_mod (mi := mL_law) (pc := 1636) dL_law_1636 YX9_reserve rfl kL_250 hI1 hg (fun h => c_X9_reserve h _ _) rfl rfl (Nat.le_of_ble_eq_true rfl) (by decide) (fun w2 z hz hI2 hO2 => ?_)
  refine JL_istore dL_law_1639 (by decide) rfl ?_
  refine JL_aload_n dL_law_1641 rfl rfl ?_
  refine JL_thr (mi := mL_law) (pc := 1642) dL_law_1642 YX9_thrown rfl kL_172 hI2 (fun h => c_X9_thrown h) rfl (Nat.le_of_ble_eq_true rfl) (by decide) ?_
  refine JL_iload dL_law_1645 rfl ?_
  refine JL_icmp_eq (tgt := 1652) dL_law_1647 (by decide) (fun _ => ?_) (fun h => absurd rfl h)
  refine JL_iload dL_law_1652 rfl ?_
  refine JL_if_ne (tgt := 1669) dL_law_1654 (by decide) (fun _ => ?_) (fun h => ?_)
  · exact JL_goto (tgt := 2989) dL_law_1669 (by decide) (k _ _ _ _ _ _ hI2)
  · have e0 := cod_0.mp ((nI_eq (b := 0) (cod_lt _ (by decide)) (by decide)).mp h)
    have hz0 := hz e0
    have hg0 := h0 e0
    refine JL_aload_n dL_law_1657 rfl rfl ?_
    refine JL_iconst (v := nI 0) dL_law_1658 (by decide) ?_
    refine KL_lald (v := g 0) dL_law_1659 hO2 (by decide) (by decide) rfl ?_
    refine JL_iload dL_law_1660 rfl ?_
    refine JL_i2l dL_law_1662 rfl ?_
    refine JL_lcmp dL_law_1663 ?_
    exact JL_if_eq (tgt := 1669) dL_law_1664 (by decide) (fun _ => JL_goto (tgt := 2989) dL_law_1669 (by decide) (k _ _ _ _ _ _ hI2)) (fun h => absurd (lgc_eq (by rw [hg0, hz0])) h)
theorem lw_c25 {sN : Nat} {sF : Nat → Int32} {w : Wd} {x m o q th i kb sb : Nat} {G : Gme} {Q : Po} {l6 l7 l8 : Option Value} (hN : sN < 2 ^ 31) (hi : i + 2 < sN) (hI : LI w x m o q G G th) (k : ∀ (w' : Wd) (G' : Gme) (th' : Nat) (l6 l7 l8 : Option Value), LI w' x m o q G' G' th' → JL sN sF 40 mL_law 2989 [some (.ref 3), some (.ref x), some (.ref m), some (.ref o), some (.ref q), some (.int (nI i)), l6, l7, l8] [] w' kb sb Q) : JL sN sF 40 mL_law 1672 [some (.ref 3), some (.ref x), some (.ref m), some (.ref o), some (.ref q), some (.int (nI i)), l6, l7, l8] [] w (kb + 1) (sb + 6) Q := by
  refine JL_aload_n dL_law_1672 rfl rfl ?_
  refine JL_aload_n dL_law_1673 rfl rfl ?_
  refine JL_iload dL_law_1674 rfl ?_
  refine JL_iconst (v := nI 1) dL_law_1676 (by decide) ?_
  refine JL_iadd dL_law_1677 ?_
  refine JL_scg dL_law_1678 (scIn (by omega) hN) ?_
  refine JL_aload_n dL_law_1679 rfl rfl ?_
  refine JL_help (mi := mL_law) (pc := 1680) dL_law_1680 rfl YL_cancelReservation kL_251 hI (fun g0 h1 h2 => c_L_cancelReservation hI.1 h1 h2 _) rfl rfl (Nat.le_of_ble_eq_true rfl) (by decide) (fun w1 g hg h0 hI1 => ?_)
  refine JL_istore dL_law_1683 (by decide) rfl ?_
  refine JL_aload_n dL_law_1685 rfl rfl ?_
  refine JL_aload_n dL_law_1686 rfl rfl ?_
  refine JL_iload dL_law_1687 rfl ?_
  refine JL_iconst (v := nI 1) dL_law_1689 (by decide) ?_
  refine JL_iadd dL_law_1690 ?_
  refine JL_scg dL_law_1691 (scIn (by omega) hN) ?_
  refine JL_mod (mi := mL_law) (pc := 1692) dL_law_1692 YX9_cancelReservation rfl kL_253 hI1 hg (fun h => c_X9_cancelReservation h _) rfl rfl (Nat.le_of_ble_eq_true rfl) (by decide) (fun w2 z hz hI2 hO2 => ?_)
  refine JL_istore dL_law_1695 (by decide) rfl ?_
  refine JL_aload_n dL_law_1697 rfl rfl ?_
  refine JL_thr (mi := mL_law) (pc := 1698) dL_law_1698 YX9_thrown rfl kL_172 hI2 (fun h => c_X9_thrown h) rfl (Nat.le_of_ble_eq_true rfl) (by decide) ?_
  refine JL_iload dL_law_1701 rfl ?_
  refine JL_icmp_eq (tgt := 1708) dL_law_1703 (by decide) (fun _ => ?_) (fun h => absurd rfl h)
  refine JL_iload dL_law_1708 rfl ?_
  refine JL_if_ne (tgt := 1725) dL_law_1710 (by decide) (fun _ => ?_) (fun h => ?_)
  · exact JL_goto (tgt := 2989) dL_law_1725 (by decide) (k _ _ _ _ _ _ hI2)
  · have e0 := cod_0.mp ((nI_eq (b := 0) (cod_lt _ (by decide)) (by decide)).mp h)
    have hz0 := hz e0
    have hg0 := h0 e0
    refine JL_aload_n dL_law_1713 rfl rfl ?_
    refine JL_iconst (v := nI 0) dL_law_1714 (by decide) ?_
    refine KL_lald (v := g 0) dL_law_1715 hO2 (by decide) (by decide) rfl ?_
    refine JL_iload dL_law_1716 rfl ?_
    refine JL_i2l dL_law_1718 rfl ?_
    refine JL_lcmp dL_law_1719 ?_
    exact JL_if_eq (tgt := 1725) dL_law_1720 (by decide) (fun _ => JL_goto (tgt := 2989) dL_law_1725 (by decide) (k _ _ _ _ _ _ hI2)) (fun h => absurd (lgc_eq (by rw [hg0, hz0])) h)
theorem lw_c26 {sN : Nat} {sF : Nat → Int32} {w : Wd} {x m o q th i kb sb : Nat} {G : Gme} {Q : Po} {l6 l7 l8 : Option Value} (hN : sN < 2 ^ 31) (hi : i + 2 < sN) (hI : LI w x m o q G G th) (k : ∀ (w' : Wd) (G' : Gme) (th' : Nat) (l6 l7 l8 : Option Value), LI w' x m o q G' G' th' → JL sN sF 40 mL_law 2989 [some (.ref 3), some (.ref x), some (.ref m), some (.ref o), some (.ref q), some (.int (nI i)), l6, l7, l8] [] w' kb sb Q) : JL sN sF 40 mL_law 1728 [some (.ref 3), some (.ref x), some (.ref m), some (.ref o), some (.ref q), some (.int (nI i)), l6, l7, l8] [] w (kb + 1) (sb + 6) Q := by
  refine JL_aload_n dL_law_1728 rfl rfl ?_
  refine JL_aload_n dL_law_1729 rfl rfl ?_
  refine JL_iload dL_law_1730 rfl ?_
  refine JL_iconst (v := nI 1) dL_law_1732 (by decide) ?_
  refine JL_iadd dL_law_1733 ?_
  refine JL_scg dL_law_1734 (scIn (by omega) hN) ?_
  refine JL_aload_n dL_law_1735 rfl rfl ?_
  refine JL_help (mi := mL_law) (pc := 1736) dL_law_1736 rfl YL_rescue kL_254 hI (fun g0 h1 h2 => c_L_rescue hI.1 h1 h2 _) rfl rfl (Nat.le_of_ble_eq_true rfl) (by decide) (fun w1 g hg h0 hI1 => ?_)
  refine JL_istore dL_law_1739 (by decide) rfl ?_
  refine JL_aload_n dL_law_1741 rfl rfl ?_
  refine JL_aload_n dL_law_1742 rfl rfl ?_
  refine JL_iload dL_law_1743 rfl ?_
  refine JL_iconst (v := nI 1) dL_law_1745 (by decide) ?_
  refine JL_iadd dL_law_1746 ?_
  refine JL_scg dL_law_1747 (scIn (by omega) hN) ?_
  refine JL_mod (mi := mL_law) (pc := 1748) dL_law_1748 YX9_rescue rfl kL_256 hI1 hg (fun h => c_X9_rescue h _) rfl rfl (Nat.le_of_ble_eq_true rfl) (by decide) (fun w2 z hz hI2 hO2 => ?_)
  refine JL_istore dL_law_1751 (by decide) rfl ?_
  refine JL_aload_n dL_law_1753 rfl rfl ?_
  refine JL_thr (mi := mL_law) (pc := 1754) dL_law_1754 YX9_thrown rfl kL_172 hI2 (fun h => c_X9_thrown h) rfl (Nat.le_of_ble_eq_true rfl) (by decide) ?_
  refine JL_iload dL_law_1757 rfl ?_
  refine JL_icmp_eq (tgt := 1764) dL_law_1759 (by decide) (fun _ => ?_) (fun h => absurd rfl h)
  refine JL_iload dL_law_1764 rfl ?_
  refine JL_if_ne (tgt := 1781) dL_law_1766 (by decide) (fun _ => ?_) (fun h => ?_)
  · exact JL_goto (tgt := 2989) dL_law_1781 (by decide) (k _ _ _ _ _ _ hI2)
  · have e0 := cod_0.mp ((nI_eq (b := 0) (cod_lt _ (by decide)) (by decide)).mp h)
    have hz0 := hz e0
    have hg0 := h0 e0
    refine JL_aload_n dL_law_1769 rfl rfl ?_
    refine JL_iconst (v := nI 0) dL_law_1770 (by decide) ?_
    refine KL_lald (v := g 0) dL_law_1771 hO2 (by decide) (by decide) rfl ?_
    refine JL_iload dL_law_1772 rfl ?_
    refine JL_i2l dL_law_1774 rfl ?_
    refine JL_lcmp dL_law_1775 ?_
    exact JL_if_eq (tgt := 1781) dL_law_1776 (by decide) (fun _ => JL_goto (tgt := 2989) dL_law_1781 (by decide) (k _ _ _ _ _ _ hI2)) (fun h => absurd (lgc_eq (by rw [hg0, hz0])) h)
theorem lw_c27 {sN : Nat} {sF : Nat → Int32} {w : Wd} {x m o q th i kb sb : Nat} {G : Gme} {Q : Po} {l6 l7 l8 : Option Value} (hN : sN < 2 ^ 31) (hi : i + 2 < sN) (hI : LI w x m o q G G th) (k : ∀ (w' : Wd) (G' : Gme) (th' : Nat) (l6 l7 l8 : Option Value), LI w' x m o q G' G' th' → JL sN sF 40 mL_law 2989 [some (.ref 3), some (.ref x), some (.ref m), some (.ref o), some (.ref q), some (.int (nI i)), l6, l7, l8] [] w' kb sb Q) : JL sN sF 40 mL_law 1784 [some (.ref 3), some (.ref x), some (.ref m), some (.ref o), some (.ref q), some (.int (nI i)), l6, l7, l8] [] w (kb + 1) (sb + 6) Q := by
  refine JL_aload_n dL_law_1784 rfl rfl ?_
  refine JL_cls (mi := mL_law) (pc := 1785) dL_law_1785 YX8_trainCount rfl kL_257 hI (fun h => c_X8_trainCount h) rfl rfl rfl (Nat.le_of_ble_eq_true rfl) (by decide) (fun w1 hI1 => ?_)
  obtain ⟨g, hO⟩ := hI1.2.2.1
  refine JL_aload_n dL_law_1788 rfl rfl ?_
  refine JL_mod (mi := mL_law) (pc := 1789) dL_law_1789 YX9_trainCount rfl kL_260 hI1 hO (fun h => c_X9_trainCount h) rfl rfl (Nat.le_of_ble_eq_true rfl) (by decide) (fun w2 z hz hI2 hO2 => ?_)
  have hz0 := hz rfl
  exact JL_icmp_eq (tgt := 2989) dL_law_1792 (by decide) (fun _ => k _ _ _ _ _ _ hI2) (fun h => absurd hz0.symm h)
theorem lw_c28 {sN : Nat} {sF : Nat → Int32} {w : Wd} {x m o q th i kb sb : Nat} {G : Gme} {Q : Po} {l6 l7 l8 : Option Value} (hN : sN < 2 ^ 31) (hi : i + 2 < sN) (hI : LI w x m o q G G th) (k : ∀ (w' : Wd) (G' : Gme) (th' : Nat) (l6 l7 l8 : Option Value), LI w' x m o q G' G' th' → JL sN sF 40 mL_law 2989 [some (.ref 3), some (.ref x), some (.ref m), some (.ref o), some (.ref q), some (.int (nI i)), l6, l7, l8] [] w' kb sb Q) : JL sN sF 40 mL_law 1797 [some (.ref 3), some (.ref x), some (.ref m), some (.ref o), some (.ref q), some (.int (nI i)), l6, l7, l8] [] w (kb + 1) (sb + 6) Q := by
  refine JL_aload_n dL_law_1797 rfl rfl ?_
  refine JL_aload_n dL_law_1798 rfl rfl ?_
  refine JL_iload dL_law_1799 rfl ?_
  refine JL_iconst (v := nI 1) dL_law_1801 (by decide) ?_
  refine JL_iadd dL_law_1802 ?_
  refine JL_scg dL_law_1803 (scIn (by omega) hN) ?_
  refine JL_aload_n dL_law_1804 rfl rfl ?_
  refine JL_help (mi := mL_law) (pc := 1805) dL_law_1805 rfl YL_blockOf kL_261 hI (fun g0 h1 h2 => c_L_blockOf hI.1 h1 h2 _) rfl rfl (Nat.le_of_ble_eq_true rfl) (by decide) (fun w1 g hg h0 hI1 => ?_)
  refine JL_istore dL_law_1808 (by decide) rfl ?_
  refine JL_aload_n dL_law_1810 rfl rfl ?_
  refine JL_aload_n dL_law_1811 rfl rfl ?_
  refine JL_iload dL_law_1812 rfl ?_
  refine JL_iconst (v := nI 1) dL_law_1814 (by decide) ?_
  refine JL_iadd dL_law_1815 ?_
  refine JL_scg dL_law_1816 (scIn (by omega) hN) ?_
  refine JL_mod (mi := mL_law) (pc := 1817) dL_law_1817 YX9_blockOf rfl kL_263 hI1 hg (fun h => c_X9_blockOf h _) rfl rfl (Nat.le_of_ble_eq_true rfl) (by decide) (fun w2 z hz hI2 hO2 => ?_)
  refine JL_istore dL_law_1820 (by decide) rfl ?_
  refine JL_aload_n dL_law_1822 rfl rfl ?_
  refine JL_thr (mi := mL_law) (pc := 1823) dL_law_1823 YX9_thrown rfl kL_172 hI2 (fun h => c_X9_thrown h) rfl (Nat.le_of_ble_eq_true rfl) (by decide) ?_
  refine JL_iload dL_law_1826 rfl ?_
  refine JL_icmp_eq (tgt := 1833) dL_law_1828 (by decide) (fun _ => ?_) (fun h => absurd rfl h)
  refine JL_iload dL_law_1833 rfl ?_
  refine JL_if_ne (tgt := 1850) dL_law_1835 (by decide) (fun _ => ?_) (fun h => ?_)
  · exact JL_goto (tgt := 2989) dL_law_1850 (by decide) (k _ _ _ _ _ _ hI2)
  · have e0 := cod_0.mp ((nI_eq (b := 0) (cod_lt _ (by decide)) (by decide)).mp h)
    have hz0 := hz e0
    have hg0 := h0 e0
    refine JL_aload_n dL_law_1838 rfl rfl ?_
    refine JL_iconst (v := nI 0) dL_law_1839 (by decide) ?_
    refine KL_lald (v := g 0) dL_law_1840 hO2 (by decide) (by decide) rfl ?_
    refine JL_iload dL_law_1841 rfl ?_
    refine JL_i2l dL_law_1843 rfl ?_
    refine JL_lcmp dL_law_1844 ?_
    exact JL_if_eq (tgt := 1850) dL_law_1845 (by decide) (fun _ => JL_goto (tgt := 2989) dL_law_1850 (by decide) (k _ _ _ _ _ _ hI2)) (fun h => absurd (lgc_eq (by rw [hg0, hz0])) h)
theorem lw_c29 {sN : Nat} {sF : Nat → Int32} {w : Wd} {x m o q th i kb sb : Nat} {G : Gme} {Q : Po} {l6 l7 l8 : Option Value} (hN : sN < 2 ^ 31) (hi : i + 2 < sN) (hI : LI w x m o q G G th) (k : ∀ (w' : Wd) (G' : Gme) (th' : Nat) (l6 l7 l8 : Option Value), LI w' x m o q G' G' th' → JL sN sF 40 mL_law 2989 [some (.ref 3), some (.ref x), some (.ref m), some (.ref o), some (.ref q), some (.int (nI i)), l6, l7, l8] [] w' kb sb Q) : JL sN sF 40 mL_law 1853 [some (.ref 3), some (.ref x), some (.ref m), some (.ref o), some (.ref q), some (.int (nI i)), l6, l7, l8] [] w (kb + 1) (sb + 6) Q := by
  refine JL_aload_n dL_law_1853 rfl rfl ?_
  refine JL_aload_n dL_law_1854 rfl rfl ?_
  refine JL_iload dL_law_1855 rfl ?_
  refine JL_iconst (v := nI 1) dL_law_1857 (by decide) ?_
  refine JL_iadd dL_law_1858 ?_
  refine JL_scg dL_law_1859 (scIn (by omega) hN) ?_
  refine JL_aload_n dL_law_1860 rfl rfl ?_
  refine JL_help (mi := mL_law) (pc := 1861) dL_law_1861 rfl YL_priority kL_264 hI (fun g0 h1 h2 => c_L_priority hI.1 h1 h2 _) rfl rfl (Nat.le_of_ble_eq_true rfl) (by decide) (fun w1 g hg h0 hI1 => ?_)
  refine JL_istore dL_law_1864 (by decide) rfl ?_
  refine JL_aload_n dL_law_1866 rfl rfl ?_
  refine JL_aload_n dL_law_1867 rfl rfl ?_
  refine JL_iload dL_law_1868 rfl ?_
  refine JL_iconst (v := nI 1) dL_law_1870 (by decide) ?_
  refine JL_iadd dL_law_1871 ?_
  refine JL_scg dL_law_1872 (scIn (by omega) hN) ?_
  refine JL_mod (mi := mL_law) (pc := 1873) dL_law_1873 YX9_priority rfl kL_266 hI1 hg (fun h => c_X9_priority h _) rfl rfl (Nat.le_of_ble_eq_true rfl) (by decide) (fun w2 z hz hI2 hO2 => ?_)
  refine JL_istore dL_law_1876 (by decide) rfl ?_
  refine JL_aload_n dL_law_1878 rfl rfl ?_
  refine JL_thr (mi := mL_law) (pc := 1879) dL_law_1879 YX9_thrown rfl kL_172 hI2 (fun h => c_X9_thrown h) rfl (Nat.le_of_ble_eq_true rfl) (by decide) ?_
  refine JL_iload dL_law_1882 rfl ?_
  refine JL_icmp_eq (tgt := 1889) dL_law_1884 (by decide) (fun _ => ?_) (fun h => absurd rfl h)
  refine JL_iload dL_law_1889 rfl ?_
  refine JL_if_ne (tgt := 1906) dL_law_1891 (by decide) (fun _ => ?_) (fun h => ?_)
  · exact JL_goto (tgt := 2989) dL_law_1906 (by decide) (k _ _ _ _ _ _ hI2)
  · have e0 := cod_0.mp ((nI_eq (b := 0) (cod_lt _ (by decide)) (by decide)).mp h)
    have hz0 := hz e0
    have hg0 := h0 e0
    refine JL_aload_n dL_law_1894 rfl rfl ?_
    refine JL_iconst (v := nI 0) dL_law_1895 (by decide) ?_
    refine KL_lald (v := g 0) dL_law_1896 hO2 (by decide) (by decide) rfl ?_
    refine JL_iload dL_law_1897 rfl ?_
    refine JL_i2l dL_law_1899 rfl ?_
    refine JL_lcmp dL_law_1900 ?_
    exact JL_if_eq (tgt := 1906) dL_law_1901 (by decide) (fun _ => JL_goto (tgt := 2989) dL_law_1906 (by decide) (k _ _ _ _ _ _ hI2)) (fun h => absurd (lgc_eq (by rw [hg0, hz0])) h)
end JCASES

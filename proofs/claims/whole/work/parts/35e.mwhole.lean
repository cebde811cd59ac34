/-! THE MODEL WHOLE -/
section JMWHOLE
theorem c_X9_addBlock {w : Wd} {m : Nat} {G : Gme} {th : Nat} (hM : RepM w m G th) (y : Int32) : MC 4 mX9_addBlock 0 0 [.ref m, .int y] w (GM w m [2, 3] (gMut G (oAdd (gS G) y false))) := by
  have hA := hM
  obtain ⟨x, f2, f3, f4, f5, f6, f7, f8, hA, -⟩ := id hM
  obtain ⟨f, g, h, mO, -, -, -, hfit⟩ := id hA
  have hwf := hfit.2.2.2.2
  refine MC_j pnX9 rfl rfl rfl (Or.inr (fun E w h => RP_no E w h)) ?_
  show J 4 mX9_addBlock 0 [some (.ref m), some (.int y)] [] w 0 0 _
  refine J_aload_n dX9_addBlock_0 rfl rfl ?_
  refine K_callVp dX9_addBlock_1 YX9_remembers kX9_127 (rc_of mO rfl) (c_X9_remembers hM) rfl rfl (Nat.le_of_ble_eq_true rfl) (by decide) (fun v1 w1 q1 => ?_)
  obtain ⟨rfl, hF1, x1, hI1⟩ := q1
  obtain ⟨-, -, -, -, -, -, -, hA1, -⟩ := id hI1
  obtain ⟨-, -, -, mO, -⟩ := id hA1
  refine J_aload_n dX9_addBlock_4 rfl rfl ?_
  refine J_aload_n dX9_addBlock_5 rfl rfl ?_
  refine J_iload_n dX9_addBlock_6 rfl rfl ?_
  refine J_iconst (v := b2i false) dX9_addBlock_7 (by decide) ?_
  refine K_callVp dX9_addBlock_8 YX9_adds kX9_130 (rc_of mO rfl) (c_X9_adds hA1 y false) rfl rfl (Nat.le_of_ble_eq_true rfl) (by decide) (fun v8 w8 q8 => ?_)
  obtain ⟨rfl, hF8, x2, hA2, hx2, hv2⟩ := q8
  have hI2 := hI1.fa hF8 hA2 hx2
  obtain ⟨-, -, -, mO, -⟩ := id hA2
  refine K_callVp dX9_addBlock_11 YX9_ends kX9_133 (rc_of mO rfl) (c_X9_ends hI2 (cod_lt _ (by decide))) rfl rfl (Nat.le_of_ble_eq_true rfl) (by decide) (fun v11 w11 q11 => ?_)
  obtain ⟨hF11, ⟨yv, rfl, hy⟩, hok, hno⟩ := q11
  exact J_ireturn dX9_addBlock_14 rfl rfl (RP_i (by
    have hR := rok_add hwf y false
    have hFr := (hF1.tr hF8.fr (Nat.le_refl _) (Nat.le_refl _)).tr hF11 (Nat.le_refl _) (Nat.le_refl _)
    by_cases e : (oAdd (gS G) y false).1 = 0
    · have hc := cod_0 (l := [2, 3]).mpr e
      rw [show gMut G (oAdd (gS G) y false) = (0, (oAdd (gS G) y false).2.1, gPush G (oAdd (gS G) y false).2.2) from if_pos e]
      exact ⟨⟨yv, rfl, fun _ => (hy hc).trans (hv2 e)⟩, hFr, hok hc⟩
    · have hc := mt (cod_0 (l := [2, 3])).mp e
      rw [show gMut G (oAdd (gS G) y false) = ((oAdd (gS G) y false).1, 0, G) from if_neg e]
      exact ⟨⟨yv, rfl, fun z => absurd z e⟩, hFr, hno hc (hR.2.1 e)⟩))

theorem c_X9_addCushion {w : Wd} {m : Nat} {G : Gme} {th : Nat} (hM : RepM w m G th) (y : Int32) : MC 4 mX9_addCushion 0 0 [.ref m, .int y] w (GM w m [2, 3] (gMut G (oAdd (gS G) y true))) := by
  have hA := hM
  obtain ⟨x, f2, f3, f4, f5, f6, f7, f8, hA, -⟩ := id hM
  obtain ⟨f, g, h, mO, -, -, -, hfit⟩ := id hA
  have hwf := hfit.2.2.2.2
  refine MC_j pnX9 rfl rfl rfl (Or.inr (fun E w h => RP_no E w h)) ?_
  show J 4 mX9_addCushion 0 [some (.ref m), some (.int y)] [] w 0 0 _
  refine J_aload_n dX9_addCushion_0 rfl rfl ?_
  refine K_callVp dX9_addCushion_1 YX9_remembers kX9_127 (rc_of mO rfl) (c_X9_remembers hM) rfl rfl (Nat.le_of_ble_eq_true rfl) (by decide) (fun v1 w1 q1 => ?_)
  obtain ⟨rfl, hF1, x1, hI1⟩ := q1
  obtain ⟨-, -, -, -, -, -, -, hA1, -⟩ := id hI1
  obtain ⟨-, -, -, mO, -⟩ := id hA1
  refine J_aload_n dX9_addCushion_4 rfl rfl ?_
  refine J_aload_n dX9_addCushion_5 rfl rfl ?_
  refine J_iload_n dX9_addCushion_6 rfl rfl ?_
  refine J_iconst (v := b2i true) dX9_addCushion_7 (by decide) ?_
  refine K_callVp dX9_addCushion_8 YX9_adds kX9_130 (rc_of mO rfl) (c_X9_adds hA1 y true) rfl rfl (Nat.le_of_ble_eq_true rfl) (by decide) (fun v8 w8 q8 => ?_)
  obtain ⟨rfl, hF8, x2, hA2, hx2, hv2⟩ := q8
  have hI2 := hI1.fa hF8 hA2 hx2
  obtain ⟨-, -, -, mO, -⟩ := id hA2
  refine K_callVp dX9_addCushion_11 YX9_ends kX9_133 (rc_of mO rfl) (c_X9_ends hI2 (cod_lt _ (by decide))) rfl rfl (Nat.le_of_ble_eq_true rfl) (by decide) (fun v11 w11 q11 => ?_)
  obtain ⟨hF11, ⟨yv, rfl, hy⟩, hok, hno⟩ := q11
  exact J_ireturn dX9_addCushion_14 rfl rfl (RP_i (by
    have hR := rok_add hwf y true
    have hFr := (hF1.tr hF8.fr (Nat.le_refl _) (Nat.le_refl _)).tr hF11 (Nat.le_refl _) (Nat.le_refl _)
    by_cases e : (oAdd (gS G) y true).1 = 0
    · have hc := cod_0 (l := [2, 3]).mpr e
      rw [show gMut G (oAdd (gS G) y true) = (0, (oAdd (gS G) y true).2.1, gPush G (oAdd (gS G) y true).2.2) from if_pos e]
      exact ⟨⟨yv, rfl, fun _ => (hy hc).trans (hv2 e)⟩, hFr, hok hc⟩
    · have hc := mt (cod_0 (l := [2, 3])).mp e
      rw [show gMut G (oAdd (gS G) y true) = ((oAdd (gS G) y true).1, 0, G) from if_neg e]
      exact ⟨⟨yv, rfl, fun z => absurd z e⟩, hFr, hno hc (hR.2.1 e)⟩))

theorem c_X9_link {w : Wd} {m : Nat} {G : Gme} {th : Nat} (hM : RepM w m G th) (y : Int32) (z : Int32) : MC 5 mX9_link 0 0 [.ref m, .int y, .int z] w (GM w m [1, 2, 3] (gMut G (oJoin (gS G) y z))) := by
  have hA := hM
  obtain ⟨x, f2, f3, f4, f5, f6, f7, f8, hA, -⟩ := id hM
  obtain ⟨f, g, h, mO, -, -, -, hfit⟩ := id hA
  have hwf := hfit.2.2.2.2
  refine MC_j pnX9 rfl rfl rfl (Or.inr (fun E w h => RP_no E w h)) ?_
  show J 5 mX9_link 0 [some (.ref m), some (.int y), some (.int z)] [] w 0 0 _
  refine J_aload_n dX9_link_0 rfl rfl ?_
  refine K_callVp dX9_link_1 YX9_remembers kX9_127 (rc_of mO rfl) (c_X9_remembers hM) rfl rfl (Nat.le_of_ble_eq_true rfl) (by decide) (fun v1 w1 q1 => ?_)
  obtain ⟨rfl, hF1, x1, hI1⟩ := q1
  obtain ⟨-, -, -, -, -, -, -, hA1, -⟩ := id hI1
  obtain ⟨-, -, -, mO, -⟩ := id hA1
  refine J_aload_n dX9_link_4 rfl rfl ?_
  refine J_aload_n dX9_link_5 rfl rfl ?_
  refine J_iload_n dX9_link_6 rfl rfl ?_
  refine J_iload_n dX9_link_7 rfl rfl ?_
  refine K_callVp dX9_link_8 YX9_joins kX9_136 (rc_of mO rfl) (c_X9_joins hA1 y z) rfl rfl (Nat.le_of_ble_eq_true rfl) (by decide) (fun v8 w8 q8 => ?_)
  obtain ⟨rfl, hF8, x2, hA2, hx2, hv2⟩ := q8
  have hI2 := hI1.fa hF8 hA2 hx2
  obtain ⟨-, -, -, mO, -⟩ := id hA2
  refine K_callVp dX9_link_11 YX9_ends kX9_133 (rc_of mO rfl) (c_X9_ends hI2 (cod_lt _ (by decide))) rfl rfl (Nat.le_of_ble_eq_true rfl) (by decide) (fun v11 w11 q11 => ?_)
  obtain ⟨hF11, ⟨yv, rfl, hy⟩, hok, hno⟩ := q11
  exact J_ireturn dX9_link_14 rfl rfl (RP_i (by
    have hR := rok_join hwf y z
    have hFr := (hF1.tr hF8.fr (Nat.le_refl _) (Nat.le_refl _)).tr hF11 (Nat.le_refl _) (Nat.le_refl _)
    by_cases e : (oJoin (gS G) y z).1 = 0
    · have hc := cod_0 (l := [1, 2, 3]).mpr e
      rw [show gMut G (oJoin (gS G) y z) = (0, (oJoin (gS G) y z).2.1, gPush G (oJoin (gS G) y z).2.2) from if_pos e]
      exact ⟨⟨yv, rfl, fun _ => (hy hc).trans (hv2 e)⟩, hFr, hok hc⟩
    · have hc := mt (cod_0 (l := [1, 2, 3])).mp e
      rw [show gMut G (oJoin (gS G) y z) = ((oJoin (gS G) y z).1, 0, G) from if_neg e]
      exact ⟨⟨yv, rfl, fun z => absurd z e⟩, hFr, hno hc (hR.2.1 e)⟩))

theorem c_X9_unlink {w : Wd} {m : Nat} {G : Gme} {th : Nat} (hM : RepM w m G th) (y : Int32) (z : Int32) : MC 5 mX9_unlink 0 0 [.ref m, .int y, .int z] w (GM w m [1, 5] (gMut G (oPart (gS G) y z))) := by
  have hA := hM
  obtain ⟨x, f2, f3, f4, f5, f6, f7, f8, hA, -⟩ := id hM
  obtain ⟨f, g, h, mO, -, -, -, hfit⟩ := id hA
  have hwf := hfit.2.2.2.2
  refine MC_j pnX9 rfl rfl rfl (Or.inr (fun E w h => RP_no E w h)) ?_
  show J 5 mX9_unlink 0 [some (.ref m), some (.int y), some (.int z)] [] w 0 0 _
  refine J_aload_n dX9_unlink_0 rfl rfl ?_
  refine K_callVp dX9_unlink_1 YX9_remembers kX9_127 (rc_of mO rfl) (c_X9_remembers hM) rfl rfl (Nat.le_of_ble_eq_true rfl) (by decide) (fun v1 w1 q1 => ?_)
  obtain ⟨rfl, hF1, x1, hI1⟩ := q1
  obtain ⟨-, -, -, -, -, -, -, hA1, -⟩ := id hI1
  obtain ⟨-, -, -, mO, -⟩ := id hA1
  refine J_aload_n dX9_unlink_4 rfl rfl ?_
  refine J_aload_n dX9_unlink_5 rfl rfl ?_
  refine J_iload_n dX9_unlink_6 rfl rfl ?_
  refine J_iload_n dX9_unlink_7 rfl rfl ?_
  refine K_callVp dX9_unlink_8 YX9_parts kX9_139 (rc_of mO rfl) (c_X9_parts hA1 y z) rfl rfl (Nat.le_of_ble_eq_true rfl) (by decide) (fun v8 w8 q8 => ?_)
  obtain ⟨rfl, hF8, x2, hA2, hx2, hv2⟩ := q8
  have hI2 := hI1.fa hF8 hA2 hx2
  obtain ⟨-, -, -, mO, -⟩ := id hA2
  refine K_callVp dX9_unlink_11 YX9_ends kX9_133 (rc_of mO rfl) (c_X9_ends hI2 (cod_lt _ (by decide))) rfl rfl (Nat.le_of_ble_eq_true rfl) (by decide) (fun v11 w11 q11 => ?_)
  obtain ⟨hF11, ⟨yv, rfl, hy⟩, hok, hno⟩ := q11
  exact J_ireturn dX9_unlink_14 rfl rfl (RP_i (by
    have hR := rok_part hwf y z
    have hFr := (hF1.tr hF8.fr (Nat.le_refl _) (Nat.le_refl _)).tr hF11 (Nat.le_refl _) (Nat.le_refl _)
    by_cases e : (oPart (gS G) y z).1 = 0
    · have hc := cod_0 (l := [1, 5]).mpr e
      rw [show gMut G (oPart (gS G) y z) = (0, (oPart (gS G) y z).2.1, gPush G (oPart (gS G) y z).2.2) from if_pos e]
      exact ⟨⟨yv, rfl, fun _ => (hy hc).trans (hv2 e)⟩, hFr, hok hc⟩
    · have hc := mt (cod_0 (l := [1, 5])).mp e
      rw [show gMut G (oPart (gS G) y z) = ((oPart (gS G) y z).1, 0, G) from if_neg e]
      exact ⟨⟨yv, rfl, fun z => absurd z e⟩, hFr, hno hc (hR.2.1 e)⟩))

theorem c_X9_putCat {w : Wd} {m : Nat} {G : Gme} {th : Nat} (hM : RepM w m G th) (y : Int32) : MC 5 mX9_putCat 0 0 [.ref m, .int y] w (GM w m [1, 3, 4] (gMut G (oCat (gS G) y))) := by
  have hA := hM
  obtain ⟨x, f2, f3, f4, f5, f6, f7, f8, hA, -⟩ := id hM
  obtain ⟨f, g, h, mO, -, -, -, hfit⟩ := id hA
  have hwf := hfit.2.2.2.2
  refine MC_j pnX9 rfl rfl rfl (Or.inr (fun E w h => RP_no E w h)) ?_
  show J 5 mX9_putCat 0 [some (.ref m), some (.int y)] [] w 0 0 _
  refine J_aload_n dX9_putCat_0 rfl rfl ?_
  refine K_callVp dX9_putCat_1 YX9_remembers kX9_127 (rc_of mO rfl) (c_X9_remembers hM) rfl rfl (Nat.le_of_ble_eq_true rfl) (by decide) (fun v1 w1 q1 => ?_)
  obtain ⟨rfl, hF1, x1, hI1⟩ := q1
  obtain ⟨-, -, -, -, -, -, -, hA1, -⟩ := id hI1
  obtain ⟨-, -, -, mO, -⟩ := id hA1
  refine J_aload_n dX9_putCat_4 rfl rfl ?_
  refine J_aload_n dX9_putCat_5 rfl rfl ?_
  refine J_iload_n dX9_putCat_6 rfl rfl ?_
  refine K_callVp dX9_putCat_7 YX9_seats kX9_142 (rc_of mO rfl) (c_X9_seats hA1 y) rfl rfl (Nat.le_of_ble_eq_true rfl) (by decide) (fun v7 w7 q7 => ?_)
  obtain ⟨rfl, hF7, x2, hA2, hx2, hv2⟩ := q7
  have hI2 := hI1.fa hF7 hA2 hx2
  obtain ⟨-, -, -, mO, -⟩ := id hA2
  refine K_callVp dX9_putCat_10 YX9_ends kX9_133 (rc_of mO rfl) (c_X9_ends hI2 (cod_lt _ (by decide))) rfl rfl (Nat.le_of_ble_eq_true rfl) (by decide) (fun v10 w10 q10 => ?_)
  obtain ⟨hF10, ⟨yv, rfl, hy⟩, hok, hno⟩ := q10
  exact J_ireturn dX9_putCat_13 rfl rfl (RP_i (by
    have hR := rok_cat hwf y
    have hFr := (hF1.tr hF7.fr (Nat.le_refl _) (Nat.le_refl _)).tr hF10 (Nat.le_refl _) (Nat.le_refl _)
    by_cases e : (oCat (gS G) y).1 = 0
    · have hc := cod_0 (l := [1, 3, 4]).mpr e
      rw [show gMut G (oCat (gS G) y) = (0, (oCat (gS G) y).2.1, gPush G (oCat (gS G) y).2.2) from if_pos e]
      exact ⟨⟨yv, rfl, fun _ => (hy hc).trans (hv2 e)⟩, hFr, hok hc⟩
    · have hc := mt (cod_0 (l := [1, 3, 4])).mp e
      rw [show gMut G (oCat (gS G) y) = ((oCat (gS G) y).1, 0, G) from if_neg e]
      exact ⟨⟨yv, rfl, fun z => absurd z e⟩, hFr, hno hc (hR.2.1 e)⟩))

theorem c_X9_removeCat {w : Wd} {m : Nat} {G : Gme} {th : Nat} (hM : RepM w m G th) (y : Int32) : MC 5 mX9_removeCat 0 0 [.ref m, .int y] w (GM w m [1, 5] (gMut G (oShoo (gS G) y))) := by
  have hA := hM
  obtain ⟨x, f2, f3, f4, f5, f6, f7, f8, hA, -⟩ := id hM
  obtain ⟨f, g, h, mO, -, -, -, hfit⟩ := id hA
  have hwf := hfit.2.2.2.2
  refine MC_j pnX9 rfl rfl rfl (Or.inr (fun E w h => RP_no E w h)) ?_
  show J 5 mX9_removeCat 0 [some (.ref m), some (.int y)] [] w 0 0 _
  refine J_aload_n dX9_removeCat_0 rfl rfl ?_
  refine K_callVp dX9_removeCat_1 YX9_remembers kX9_127 (rc_of mO rfl) (c_X9_remembers hM) rfl rfl (Nat.le_of_ble_eq_true rfl) (by decide) (fun v1 w1 q1 => ?_)
  obtain ⟨rfl, hF1, x1, hI1⟩ := q1
  obtain ⟨-, -, -, -, -, -, -, hA1, -⟩ := id hI1
  obtain ⟨-, -, -, mO, -⟩ := id hA1
  refine J_aload_n dX9_removeCat_4 rfl rfl ?_
  refine J_aload_n dX9_removeCat_5 rfl rfl ?_
  refine J_iload_n dX9_removeCat_6 rfl rfl ?_
  refine K_callVp dX9_removeCat_7 YX9_shoos kX9_145 (rc_of mO rfl) (c_X9_shoos hA1 y) rfl rfl (Nat.le_of_ble_eq_true rfl) (by decide) (fun v7 w7 q7 => ?_)
  obtain ⟨rfl, hF7, x2, hA2, hx2, hv2⟩ := q7
  have hI2 := hI1.fa hF7 hA2 hx2
  obtain ⟨-, -, -, mO, -⟩ := id hA2
  refine K_callVp dX9_removeCat_10 YX9_ends kX9_133 (rc_of mO rfl) (c_X9_ends hI2 (cod_lt _ (by decide))) rfl rfl (Nat.le_of_ble_eq_true rfl) (by decide) (fun v10 w10 q10 => ?_)
  obtain ⟨hF10, ⟨yv, rfl, hy⟩, hok, hno⟩ := q10
  exact J_ireturn dX9_removeCat_13 rfl rfl (RP_i (by
    have hR := rok_shoo hwf y
    have hFr := (hF1.tr hF7.fr (Nat.le_refl _) (Nat.le_refl _)).tr hF10 (Nat.le_refl _) (Nat.le_refl _)
    by_cases e : (oShoo (gS G) y).1 = 0
    · have hc := cod_0 (l := [1, 5]).mpr e
      rw [show gMut G (oShoo (gS G) y) = (0, (oShoo (gS G) y).2.1, gPush G (oShoo (gS G) y).2.2) from if_pos e]
      exact ⟨⟨yv, rfl, fun _ => (hy hc).trans (hv2 e)⟩, hFr, hok hc⟩
    · have hc := mt (cod_0 (l := [1, 5])).mp e
      rw [show gMut G (oShoo (gS G) y) = ((oShoo (gS G) y).1, 0, G) from if_neg e]
      exact ⟨⟨yv, rfl, fun z => absurd z e⟩, hFr, hno hc (hR.2.1 e)⟩))

theorem c_X9_addTrain {w : Wd} {m : Nat} {G : Gme} {th : Nat} (hM : RepM w m G th) (y : Int32) (z : Int32) : MC 5 mX9_addTrain 0 0 [.ref m, .int y, .int z] w (GM w m [1, 2, 3, 4] (gMut G (oTrain (gS G) y z))) := by
  have hA := hM
  obtain ⟨x, f2, f3, f4, f5, f6, f7, f8, hA, -⟩ := id hM
  obtain ⟨f, g, h, mO, -, -, -, hfit⟩ := id hA
  have hwf := hfit.2.2.2.2
  refine MC_j pnX9 rfl rfl rfl (Or.inr (fun E w h => RP_no E w h)) ?_
  show J 5 mX9_addTrain 0 [some (.ref m), some (.int y), some (.int z)] [] w 0 0 _
  refine J_aload_n dX9_addTrain_0 rfl rfl ?_
  refine K_callVp dX9_addTrain_1 YX9_remembers kX9_127 (rc_of mO rfl) (c_X9_remembers hM) rfl rfl (Nat.le_of_ble_eq_true rfl) (by decide) (fun v1 w1 q1 => ?_)
  obtain ⟨rfl, hF1, x1, hI1⟩ := q1
  obtain ⟨-, -, -, -, -, -, -, hA1, -⟩ := id hI1
  obtain ⟨-, -, -, mO, -⟩ := id hA1
  refine J_aload_n dX9_addTrain_4 rfl rfl ?_
  refine J_aload_n dX9_addTrain_5 rfl rfl ?_
  refine J_iload_n dX9_addTrain_6 rfl rfl ?_
  refine J_iload_n dX9_addTrain_7 rfl rfl ?_
  refine K_callVp dX9_addTrain_8 YX9_starts kX9_160 (rc_of mO rfl) (c_X9_starts hA1 y z) rfl rfl (Nat.le_of_ble_eq_true rfl) (by decide) (fun v8 w8 q8 => ?_)
  obtain ⟨rfl, hF8, x2, hA2, hx2, hv2⟩ := q8
  have hI2 := hI1.fa hF8 hA2 hx2
  obtain ⟨-, -, -, mO, -⟩ := id hA2
  refine K_callVp dX9_addTrain_11 YX9_ends kX9_133 (rc_of mO rfl) (c_X9_ends hI2 (cod_lt _ (by decide))) rfl rfl (Nat.le_of_ble_eq_true rfl) (by decide) (fun v11 w11 q11 => ?_)
  obtain ⟨hF11, ⟨yv, rfl, hy⟩, hok, hno⟩ := q11
  exact J_ireturn dX9_addTrain_14 rfl rfl (RP_i (by
    have hR := rok_train hwf y z
    have hFr := (hF1.tr hF8.fr (Nat.le_refl _) (Nat.le_refl _)).tr hF11 (Nat.le_refl _) (Nat.le_refl _)
    by_cases e : (oTrain (gS G) y z).1 = 0
    · have hc := cod_0 (l := [1, 2, 3, 4]).mpr e
      rw [show gMut G (oTrain (gS G) y z) = (0, (oTrain (gS G) y z).2.1, gPush G (oTrain (gS G) y z).2.2) from if_pos e]
      exact ⟨⟨yv, rfl, fun _ => (hy hc).trans (hv2 e)⟩, hFr, hok hc⟩
    · have hc := mt (cod_0 (l := [1, 2, 3, 4])).mp e
      rw [show gMut G (oTrain (gS G) y z) = ((oTrain (gS G) y z).1, 0, G) from if_neg e]
      exact ⟨⟨yv, rfl, fun z => absurd z e⟩, hFr, hno hc (hR.2.1 e)⟩))

theorem c_X9_setGoal {w : Wd} {m : Nat} {G : Gme} {th : Nat} (hM : RepM w m G th) (y : Int32) (z : Int32) : MC 5 mX9_setGoal 0 0 [.ref m, .int y, .int z] w (GM w m [1, 2, 4, 5] (gMut G (oAim (gS G) y z))) := by
  have hA := hM
  obtain ⟨x, f2, f3, f4, f5, f6, f7, f8, hA, -⟩ := id hM
  obtain ⟨f, g, h, mO, -, -, -, hfit⟩ := id hA
  have hwf := hfit.2.2.2.2
  refine MC_j pnX9 rfl rfl rfl (Or.inr (fun E w h => RP_no E w h)) ?_
  show J 5 mX9_setGoal 0 [some (.ref m), some (.int y), some (.int z)] [] w 0 0 _
  refine J_aload_n dX9_setGoal_0 rfl rfl ?_
  refine K_callVp dX9_setGoal_1 YX9_remembers kX9_127 (rc_of mO rfl) (c_X9_remembers hM) rfl rfl (Nat.le_of_ble_eq_true rfl) (by decide) (fun v1 w1 q1 => ?_)
  obtain ⟨rfl, hF1, x1, hI1⟩ := q1
  obtain ⟨-, -, -, -, -, -, -, hA1, -⟩ := id hI1
  obtain ⟨-, -, -, mO, -⟩ := id hA1
  refine J_aload_n dX9_setGoal_4 rfl rfl ?_
  refine J_aload_n dX9_setGoal_5 rfl rfl ?_
  refine J_iload_n dX9_setGoal_6 rfl rfl ?_
  refine J_iload_n dX9_setGoal_7 rfl rfl ?_
  refine K_callVp dX9_setGoal_8 YX9_aims kX9_163 (rc_of mO rfl) (c_X9_aims hA1 y z) rfl rfl (Nat.le_of_ble_eq_true rfl) (by decide) (fun v8 w8 q8 => ?_)
  obtain ⟨rfl, hF8, x2, hA2, hx2, hv2⟩ := q8
  have hI2 := hI1.fa hF8 hA2 hx2
  obtain ⟨-, -, -, mO, -⟩ := id hA2
  refine K_callVp dX9_setGoal_11 YX9_ends kX9_133 (rc_of mO rfl) (c_X9_ends hI2 (cod_lt _ (by decide))) rfl rfl (Nat.le_of_ble_eq_true rfl) (by decide) (fun v11 w11 q11 => ?_)
  obtain ⟨hF11, ⟨yv, rfl, hy⟩, hok, hno⟩ := q11
  exact J_ireturn dX9_setGoal_14 rfl rfl (RP_i (by
    have hR := rok_aim hwf y z
    have hFr := (hF1.tr hF8.fr (Nat.le_refl _) (Nat.le_refl _)).tr hF11 (Nat.le_refl _) (Nat.le_refl _)
    by_cases e : (oAim (gS G) y z).1 = 0
    · have hc := cod_0 (l := [1, 2, 4, 5]).mpr e
      rw [show gMut G (oAim (gS G) y z) = (0, (oAim (gS G) y z).2.1, gPush G (oAim (gS G) y z).2.2) from if_pos e]
      exact ⟨⟨yv, rfl, fun _ => (hy hc).trans (hv2 e)⟩, hFr, hok hc⟩
    · have hc := mt (cod_0 (l := [1, 2, 4, 5])).mp e
      rw [show gMut G (oAim (gS G) y z) = ((oAim (gS G) y z).1, 0, G) from if_neg e]
      exact ⟨⟨yv, rfl, fun z => absurd z e⟩, hFr, hno hc (hR.2.1 e)⟩))

theorem c_X9_clearGoal {w : Wd} {m : Nat} {G : Gme} {th : Nat} (hM : RepM w m G th) (y : Int32) : MC 5 mX9_clearGoal 0 0 [.ref m, .int y] w (GM w m [1, 5] (gMut G (oDrop (gS G) y))) := by
  have hA := hM
  obtain ⟨x, f2, f3, f4, f5, f6, f7, f8, hA, -⟩ := id hM
  obtain ⟨f, g, h, mO, -, -, -, hfit⟩ := id hA
  have hwf := hfit.2.2.2.2
  refine MC_j pnX9 rfl rfl rfl (Or.inr (fun E w h => RP_no E w h)) ?_
  show J 5 mX9_clearGoal 0 [some (.ref m), some (.int y)] [] w 0 0 _
  refine J_aload_n dX9_clearGoal_0 rfl rfl ?_
  refine K_callVp dX9_clearGoal_1 YX9_remembers kX9_127 (rc_of mO rfl) (c_X9_remembers hM) rfl rfl (Nat.le_of_ble_eq_true rfl) (by decide) (fun v1 w1 q1 => ?_)
  obtain ⟨rfl, hF1, x1, hI1⟩ := q1
  obtain ⟨-, -, -, -, -, -, -, hA1, -⟩ := id hI1
  obtain ⟨-, -, -, mO, -⟩ := id hA1
  refine J_aload_n dX9_clearGoal_4 rfl rfl ?_
  refine J_aload_n dX9_clearGoal_5 rfl rfl ?_
  refine J_iload_n dX9_clearGoal_6 rfl rfl ?_
  refine K_callVp dX9_clearGoal_7 YX9_forgets kX9_166 (rc_of mO rfl) (c_X9_forgets hA1 y) rfl rfl (Nat.le_of_ble_eq_true rfl) (by decide) (fun v7 w7 q7 => ?_)
  obtain ⟨rfl, hF7, x2, hA2, hx2, hv2⟩ := q7
  have hI2 := hI1.fa hF7 hA2 hx2
  obtain ⟨-, -, -, mO, -⟩ := id hA2
  refine K_callVp dX9_clearGoal_10 YX9_ends kX9_133 (rc_of mO rfl) (c_X9_ends hI2 (cod_lt _ (by decide))) rfl rfl (Nat.le_of_ble_eq_true rfl) (by decide) (fun v10 w10 q10 => ?_)
  obtain ⟨hF10, ⟨yv, rfl, hy⟩, hok, hno⟩ := q10
  exact J_ireturn dX9_clearGoal_13 rfl rfl (RP_i (by
    have hR := rok_drop hwf y
    have hFr := (hF1.tr hF7.fr (Nat.le_refl _) (Nat.le_refl _)).tr hF10 (Nat.le_refl _) (Nat.le_refl _)
    by_cases e : (oDrop (gS G) y).1 = 0
    · have hc := cod_0 (l := [1, 5]).mpr e
      rw [show gMut G (oDrop (gS G) y) = (0, (oDrop (gS G) y).2.1, gPush G (oDrop (gS G) y).2.2) from if_pos e]
      exact ⟨⟨yv, rfl, fun _ => (hy hc).trans (hv2 e)⟩, hFr, hok hc⟩
    · have hc := mt (cod_0 (l := [1, 5])).mp e
      rw [show gMut G (oDrop (gS G) y) = ((oDrop (gS G) y).1, 0, G) from if_neg e]
      exact ⟨⟨yv, rfl, fun z => absurd z e⟩, hFr, hno hc (hR.2.1 e)⟩))

theorem c_X9_reserve {w : Wd} {m : Nat} {G : Gme} {th : Nat} (hM : RepM w m G th) (y : Int32) (z : Int32) : MC 6 mX9_reserve 0 0 [.ref m, .int y, .int z] w (GM w m [1, 2, 3, 4] (gMut G (oHold (gS G) y z))) := by
  have hA := hM
  obtain ⟨x, f2, f3, f4, f5, f6, f7, f8, hA, -⟩ := id hM
  obtain ⟨f, g, h, mO, -, -, -, hfit⟩ := id hA
  have hwf := hfit.2.2.2.2
  refine MC_j pnX9 rfl rfl rfl (Or.inr (fun E w h => RP_no E w h)) ?_
  show J 6 mX9_reserve 0 [some (.ref m), some (.int y), some (.int z)] [] w 0 0 _
  refine J_aload_n dX9_reserve_0 rfl rfl ?_
  refine K_callVp dX9_reserve_1 YX9_remembers kX9_127 (rc_of mO rfl) (c_X9_remembers hM) rfl rfl (Nat.le_of_ble_eq_true rfl) (by decide) (fun v1 w1 q1 => ?_)
  obtain ⟨rfl, hF1, x1, hI1⟩ := q1
  obtain ⟨-, -, -, -, -, -, -, hA1, -⟩ := id hI1
  obtain ⟨-, -, -, mO, -⟩ := id hA1
  refine J_aload_n dX9_reserve_4 rfl rfl ?_
  refine J_aload_n dX9_reserve_5 rfl rfl ?_
  refine J_iload_n dX9_reserve_6 rfl rfl ?_
  refine J_iload_n dX9_reserve_7 rfl rfl ?_
  refine K_callVp dX9_reserve_8 YX9_holds kX9_169 (rc_of mO rfl) (c_X9_holds hA1 y z) rfl rfl (Nat.le_of_ble_eq_true rfl) (by decide) (fun v8 w8 q8 => ?_)
  obtain ⟨rfl, hF8, x2, hA2, hx2, hv2⟩ := q8
  have hI2 := hI1.fa hF8 hA2 hx2
  obtain ⟨-, -, -, mO, -⟩ := id hA2
  refine K_callVp dX9_reserve_11 YX9_ends kX9_133 (rc_of mO rfl) (c_X9_ends hI2 (cod_lt _ (by decide))) rfl rfl (Nat.le_of_ble_eq_true rfl) (by decide) (fun v11 w11 q11 => ?_)
  obtain ⟨hF11, ⟨yv, rfl, hy⟩, hok, hno⟩ := q11
  exact J_ireturn dX9_reserve_14 rfl rfl (RP_i (by
    have hR := rok_hold hwf y z
    have hFr := (hF1.tr hF8.fr (Nat.le_refl _) (Nat.le_refl _)).tr hF11 (Nat.le_refl _) (Nat.le_refl _)
    by_cases e : (oHold (gS G) y z).1 = 0
    · have hc := cod_0 (l := [1, 2, 3, 4]).mpr e
      rw [show gMut G (oHold (gS G) y z) = (0, (oHold (gS G) y z).2.1, gPush G (oHold (gS G) y z).2.2) from if_pos e]
      exact ⟨⟨yv, rfl, fun _ => (hy hc).trans (hv2 e)⟩, hFr, hok hc⟩
    · have hc := mt (cod_0 (l := [1, 2, 3, 4])).mp e
      rw [show gMut G (oHold (gS G) y z) = ((oHold (gS G) y z).1, 0, G) from if_neg e]
      exact ⟨⟨yv, rfl, fun z => absurd z e⟩, hFr, hno hc (hR.2.1 e)⟩))

theorem c_X9_cancelReservation {w : Wd} {m : Nat} {G : Gme} {th : Nat} (hM : RepM w m G th) (y : Int32) : MC 6 mX9_cancelReservation 0 0 [.ref m, .int y] w (GM w m [1, 5] (gMut G (oFree (gS G) y))) := by
  have hA := hM
  obtain ⟨x, f2, f3, f4, f5, f6, f7, f8, hA, -⟩ := id hM
  obtain ⟨f, g, h, mO, -, -, -, hfit⟩ := id hA
  have hwf := hfit.2.2.2.2
  refine MC_j pnX9 rfl rfl rfl (Or.inr (fun E w h => RP_no E w h)) ?_
  show J 6 mX9_cancelReservation 0 [some (.ref m), some (.int y)] [] w 0 0 _
  refine J_aload_n dX9_cancelReservation_0 rfl rfl ?_
  refine K_callVp dX9_cancelReservation_1 YX9_remembers kX9_127 (rc_of mO rfl) (c_X9_remembers hM) rfl rfl (Nat.le_of_ble_eq_true rfl) (by decide) (fun v1 w1 q1 => ?_)
  obtain ⟨rfl, hF1, x1, hI1⟩ := q1
  obtain ⟨-, -, -, -, -, -, -, hA1, -⟩ := id hI1
  obtain ⟨-, -, -, mO, -⟩ := id hA1
  refine J_aload_n dX9_cancelReservation_4 rfl rfl ?_
  refine J_aload_n dX9_cancelReservation_5 rfl rfl ?_
  refine J_iload_n dX9_cancelReservation_6 rfl rfl ?_
  refine K_callVp dX9_cancelReservation_7 YX9_frees kX9_172 (rc_of mO rfl) (c_X9_frees hA1 y) rfl rfl (Nat.le_of_ble_eq_true rfl) (by decide) (fun v7 w7 q7 => ?_)
  obtain ⟨rfl, hF7, x2, hA2, hx2, hv2⟩ := q7
  have hI2 := hI1.fa hF7 hA2 hx2
  obtain ⟨-, -, -, mO, -⟩ := id hA2
  refine K_callVp dX9_cancelReservation_10 YX9_ends kX9_133 (rc_of mO rfl) (c_X9_ends hI2 (cod_lt _ (by decide))) rfl rfl (Nat.le_of_ble_eq_true rfl) (by decide) (fun v10 w10 q10 => ?_)
  obtain ⟨hF10, ⟨yv, rfl, hy⟩, hok, hno⟩ := q10
  exact J_ireturn dX9_cancelReservation_13 rfl rfl (RP_i (by
    have hR := rok_free hwf y
    have hFr := (hF1.tr hF7.fr (Nat.le_refl _) (Nat.le_refl _)).tr hF10 (Nat.le_refl _) (Nat.le_refl _)
    by_cases e : (oFree (gS G) y).1 = 0
    · have hc := cod_0 (l := [1, 5]).mpr e
      rw [show gMut G (oFree (gS G) y) = (0, (oFree (gS G) y).2.1, gPush G (oFree (gS G) y).2.2) from if_pos e]
      exact ⟨⟨yv, rfl, fun _ => (hy hc).trans (hv2 e)⟩, hFr, hok hc⟩
    · have hc := mt (cod_0 (l := [1, 5])).mp e
      rw [show gMut G (oFree (gS G) y) = ((oFree (gS G) y).1, 0, G) from if_neg e]
      exact ⟨⟨yv, rfl, fun z => absurd z e⟩, hFr, hno hc (hR.2.1 e)⟩))

theorem c_X9_rescue {w : Wd} {m : Nat} {G : Gme} {th : Nat} (hM : RepM w m G th) (y : Int32) : MC 5 mX9_rescue 0 0 [.ref m, .int y] w (GM w m [1, 3] (gMut G (oResc (gS G) y))) := by
  have hA := hM
  obtain ⟨x, f2, f3, f4, f5, f6, f7, f8, hA, -⟩ := id hM
  obtain ⟨f, g, h, mO, -, -, -, hfit⟩ := id hA
  have hwf := hfit.2.2.2.2
  refine MC_j pnX9 rfl rfl rfl (Or.inr (fun E w h => RP_no E w h)) ?_
  show J 5 mX9_rescue 0 [some (.ref m), some (.int y)] [] w 0 0 _
  refine J_aload_n dX9_rescue_0 rfl rfl ?_
  refine K_callVp dX9_rescue_1 YX9_remembers kX9_127 (rc_of mO rfl) (c_X9_remembers hM) rfl rfl (Nat.le_of_ble_eq_true rfl) (by decide) (fun v1 w1 q1 => ?_)
  obtain ⟨rfl, hF1, x1, hI1⟩ := q1
  obtain ⟨-, -, -, -, -, -, -, hA1, -⟩ := id hI1
  obtain ⟨-, -, -, mO, -⟩ := id hA1
  refine J_aload_n dX9_rescue_4 rfl rfl ?_
  refine J_aload_n dX9_rescue_5 rfl rfl ?_
  refine J_iload_n dX9_rescue_6 rfl rfl ?_
  refine K_callVp dX9_rescue_7 YX9_rescues kX9_175 (rc_of mO rfl) (c_X9_rescues hA1 y) rfl rfl (Nat.le_of_ble_eq_true rfl) (by decide) (fun v7 w7 q7 => ?_)
  obtain ⟨rfl, hF7, x2, hA2, hx2, hv2⟩ := q7
  have hI2 := hI1.fa hF7 hA2 hx2
  obtain ⟨-, -, -, mO, -⟩ := id hA2
  refine K_callVp dX9_rescue_10 YX9_ends kX9_133 (rc_of mO rfl) (c_X9_ends hI2 (cod_lt _ (by decide))) rfl rfl (Nat.le_of_ble_eq_true rfl) (by decide) (fun v10 w10 q10 => ?_)
  obtain ⟨hF10, ⟨yv, rfl, hy⟩, hok, hno⟩ := q10
  exact J_ireturn dX9_rescue_13 rfl rfl (RP_i (by
    have hR := rok_resc hwf y
    have hFr := (hF1.tr hF7.fr (Nat.le_refl _) (Nat.le_refl _)).tr hF10 (Nat.le_refl _) (Nat.le_refl _)
    by_cases e : (oResc (gS G) y).1 = 0
    · have hc := cod_0 (l := [1, 3]).mpr e
      rw [show gMut G (oResc (gS G) y) = (0, (oResc (gS G) y).2.1, gPush G (oResc (gS G) y).2.2) from if_pos e]
      exact ⟨⟨yv, rfl, fun _ => (hy hc).trans (hv2 e)⟩, hFr, hok hc⟩
    · have hc := mt (cod_0 (l := [1, 3])).mp e
      rw [show gMut G (oResc (gS G) y) = ((oResc (gS G) y).1, 0, G) from if_neg e]
      exact ⟨⟨yv, rfl, fun z => absurd z e⟩, hFr, hno hc (hR.2.1 e)⟩))

theorem c_X9_passTicks {w : Wd} {m : Nat} {G : Gme} {th : Nat} (hM : RepM w m G th) (y : Int32) : MC 8 mX9_passTicks 0 0 [.ref m, .int y] w (GM w m [2] (gMut G (oTick (gS G) y))) := by
  have hA := hM
  obtain ⟨x, f2, f3, f4, f5, f6, f7, f8, hA, -⟩ := id hM
  obtain ⟨f, g, h, mO, -, -, -, hfit⟩ := id hA
  have hwf := hfit.2.2.2.2
  refine MC_j pnX9 rfl rfl rfl (Or.inr (fun E w h => RP_no E w h)) ?_
  show J 8 mX9_passTicks 0 [some (.ref m), some (.int y)] [] w 0 0 _
  refine J_aload_n dX9_passTicks_0 rfl rfl ?_
  refine K_callVp dX9_passTicks_1 YX9_remembers kX9_127 (rc_of mO rfl) (c_X9_remembers hM) rfl rfl (Nat.le_of_ble_eq_true rfl) (by decide) (fun v1 w1 q1 => ?_)
  obtain ⟨rfl, hF1, x1, hI1⟩ := q1
  obtain ⟨-, -, -, -, -, -, -, hA1, -⟩ := id hI1
  obtain ⟨-, -, -, mO, -⟩ := id hA1
  refine J_aload_n dX9_passTicks_4 rfl rfl ?_
  refine J_aload_n dX9_passTicks_5 rfl rfl ?_
  refine J_iload_n dX9_passTicks_6 rfl rfl ?_
  refine K_callVp dX9_passTicks_7 YX9_passes kX9_187 (rc_of mO rfl) (c_X9_passes hA1 y) rfl rfl (Nat.le_of_ble_eq_true rfl) (by decide) (fun v7 w7 q7 => ?_)
  obtain ⟨rfl, hF7, x2, hA2, hx2, hv2⟩ := q7
  have hI2 := hI1.fa hF7 hA2 hx2
  obtain ⟨-, -, -, mO, -⟩ := id hA2
  refine K_callVp dX9_passTicks_10 YX9_ends kX9_133 (rc_of mO rfl) (c_X9_ends hI2 (cod_lt _ (by decide))) rfl rfl (Nat.le_of_ble_eq_true rfl) (by decide) (fun v10 w10 q10 => ?_)
  obtain ⟨hF10, ⟨yv, rfl, hy⟩, hok, hno⟩ := q10
  exact J_ireturn dX9_passTicks_13 rfl rfl (RP_i (by
    have hR := rok_tick hwf y
    have hFr := (hF1.tr hF7.fr (Nat.le_refl _) (Nat.le_refl _)).tr hF10 (Nat.le_refl _) (Nat.le_refl _)
    by_cases e : (oTick (gS G) y).1 = 0
    · have hc := cod_0 (l := [2]).mpr e
      rw [show gMut G (oTick (gS G) y) = (0, (oTick (gS G) y).2.1, gPush G (oTick (gS G) y).2.2) from if_pos e]
      exact ⟨⟨yv, rfl, fun _ => (hy hc).trans (hv2 e)⟩, hFr, hok hc⟩
    · have hc := mt (cod_0 (l := [2])).mp e
      rw [show gMut G (oTick (gS G) y) = ((oTick (gS G) y).1, 0, G) from if_neg e]
      exact ⟨⟨yv, rfl, fun z => absurd z e⟩, hFr, hno hc (hR.2.1 e)⟩))

end JMWHOLE

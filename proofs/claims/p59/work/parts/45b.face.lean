/-! THE CLASS: its face -/
section JFACE
theorem c_X8_addBlock {w : Wd} {x : Nat} {G : Gme} (hX : RepX w x G) (y : Int32) : MC 7 mX8_addBlock 1 6 [.ref x, .int y] w (GXo w x (gMut G (oAdd (gS G) y false))) := by
  obtain ⟨hX0, hL, hV, ⟨S9, hW9⟩, ⟨K, hH⟩, hRt, hTr, ⟨p9, e9, m9, y1, y2, hD⟩, hOu, hB⟩ := id hX
  have hwf := hL.wf
  have hnb := hwf.nb
  have hnt := hwf.nt
  refine MC_j pnX8 rfl rfl rfl (Or.inl (by decide)) ?_
  show J 7 mX8_addBlock 0 [some (.ref x), some (.int y)] [] w 1 6 _
  refine J_aload_n dX8_addBlock_0 rfl rfl ?_
  refine J_getfield dX8_addBlock_1 fX8_25 hX0 rfl ?_
  refine J_aload_n dX8_addBlock_4 rfl rfl ?_
  refine J_getfield dX8_addBlock_5 fX8_12 hX0 rfl ?_
  refine K_callVp dX8_addBlock_8 YX3_keep kX8_68 (RepH.rc hH) (c_X3_keep hH hL (by omega)) rfl rfl (Nat.le_of_ble_eq_true rfl) (by decide) (fun v8 w8 q8 => ?_)
  obtain ⟨rfl, hF1, hH1⟩ := q8
  have hX0 := (hF1.1 _ (by omega)).trans hX0
  have hL1 := hL.kept (fun j hj => hF1.1 _ (by omega))
  have hT1 := hTr.kp (fun j hj => hF1.1 _ (by omega))
  refine J_aload_n dX8_addBlock_11 rfl rfl ?_
  refine J_aload_n dX8_addBlock_12 rfl rfl ?_
  refine J_getfield dX8_addBlock_13 fX8_12 hX0 rfl ?_
  refine J_iload_n dX8_addBlock_16 rfl rfl ?_
  refine J_iconst (v := b2i false) dX8_addBlock_17 (by decide) ?_
  refine K_callVp dX8_addBlock_18 YX4_placeBlock kX8_72 (RepC.rc hL1) (c_X4_placeBlock hL1 y false) rfl rfl (Nat.le_of_ble_eq_true rfl) (by decide) (fun v18 w18 q18 => ?_)
  obtain ⟨rfl, hC2, hF2⟩ := q18
  exact J_mut rfl dX8_addBlock_21 dX8_addBlock_24 rfl (by decide) rfl (rok_add hwf y false) hX hF1 hH1 (F2.of hF2) hC2 (hT1.kp (fun j hj => hF2.1 _ (by omega)))

theorem c_X8_addCushion {w : Wd} {x : Nat} {G : Gme} (hX : RepX w x G) (y : Int32) : MC 7 mX8_addCushion 1 6 [.ref x, .int y] w (GXo w x (gMut G (oAdd (gS G) y true))) := by
  obtain ⟨hX0, hL, hV, ⟨S9, hW9⟩, ⟨K, hH⟩, hRt, hTr, ⟨p9, e9, m9, y1, y2, hD⟩, hOu, hB⟩ := id hX
  have hwf := hL.wf
  have hnb := hwf.nb
  have hnt := hwf.nt
  refine MC_j pnX8 rfl rfl rfl (Or.inl (by decide)) ?_
  show J 7 mX8_addCushion 0 [some (.ref x), some (.int y)] [] w 1 6 _
  refine J_aload_n dX8_addCushion_0 rfl rfl ?_
  refine J_getfield dX8_addCushion_1 fX8_25 hX0 rfl ?_
  refine J_aload_n dX8_addCushion_4 rfl rfl ?_
  refine J_getfield dX8_addCushion_5 fX8_12 hX0 rfl ?_
  refine K_callVp dX8_addCushion_8 YX3_keep kX8_68 (RepH.rc hH) (c_X3_keep hH hL (by omega)) rfl rfl (Nat.le_of_ble_eq_true rfl) (by decide) (fun v8 w8 q8 => ?_)
  obtain ⟨rfl, hF1, hH1⟩ := q8
  have hX0 := (hF1.1 _ (by omega)).trans hX0
  have hL1 := hL.kept (fun j hj => hF1.1 _ (by omega))
  have hT1 := hTr.kp (fun j hj => hF1.1 _ (by omega))
  refine J_aload_n dX8_addCushion_11 rfl rfl ?_
  refine J_aload_n dX8_addCushion_12 rfl rfl ?_
  refine J_getfield dX8_addCushion_13 fX8_12 hX0 rfl ?_
  refine J_iload_n dX8_addCushion_16 rfl rfl ?_
  refine J_iconst (v := b2i true) dX8_addCushion_17 (by decide) ?_
  refine K_callVp dX8_addCushion_18 YX4_placeBlock kX8_72 (RepC.rc hL1) (c_X4_placeBlock hL1 y true) rfl rfl (Nat.le_of_ble_eq_true rfl) (by decide) (fun v18 w18 q18 => ?_)
  obtain ⟨rfl, hC2, hF2⟩ := q18
  exact J_mut rfl dX8_addCushion_21 dX8_addCushion_24 rfl (by decide) rfl (rok_add hwf y true) hX hF1 hH1 (F2.of hF2) hC2 (hT1.kp (fun j hj => hF2.1 _ (by omega)))

theorem c_X8_link {w : Wd} {x : Nat} {G : Gme} (hX : RepX w x G) (y : Int32) (z : Int32) : MC 7 mX8_link 1 6 [.ref x, .int y, .int z] w (GXo w x (gMut G (oJoin (gS G) y z))) := by
  obtain ⟨hX0, hL, hV, ⟨S9, hW9⟩, ⟨K, hH⟩, hRt, hTr, ⟨p9, e9, m9, y1, y2, hD⟩, hOu, hB⟩ := id hX
  have hwf := hL.wf
  have hnb := hwf.nb
  have hnt := hwf.nt
  refine MC_j pnX8 rfl rfl rfl (Or.inl (by decide)) ?_
  show J 7 mX8_link 0 [some (.ref x), some (.int y), some (.int z)] [] w 1 6 _
  refine J_aload_n dX8_link_0 rfl rfl ?_
  refine J_getfield dX8_link_1 fX8_25 hX0 rfl ?_
  refine J_aload_n dX8_link_4 rfl rfl ?_
  refine J_getfield dX8_link_5 fX8_12 hX0 rfl ?_
  refine K_callVp dX8_link_8 YX3_keep kX8_68 (RepH.rc hH) (c_X3_keep hH hL (by omega)) rfl rfl (Nat.le_of_ble_eq_true rfl) (by decide) (fun v8 w8 q8 => ?_)
  obtain ⟨rfl, hF1, hH1⟩ := q8
  have hX0 := (hF1.1 _ (by omega)).trans hX0
  have hL1 := hL.kept (fun j hj => hF1.1 _ (by omega))
  have hT1 := hTr.kp (fun j hj => hF1.1 _ (by omega))
  refine J_aload_n dX8_link_11 rfl rfl ?_
  refine J_aload_n dX8_link_12 rfl rfl ?_
  refine J_getfield dX8_link_13 fX8_12 hX0 rfl ?_
  refine J_iload_n dX8_link_16 rfl rfl ?_
  refine J_iload_n dX8_link_17 rfl rfl ?_
  refine K_callVp dX8_link_18 YX4_join kX8_80 (RepC.rc hL1) (c_X4_join hL1 y z) rfl rfl (Nat.le_of_ble_eq_true rfl) (by decide) (fun v18 w18 q18 => ?_)
  obtain ⟨rfl, hC2, hF2⟩ := q18
  exact J_mut rfl dX8_link_21 dX8_link_24 rfl (by decide) rfl (rok_join hwf y z) hX hF1 hH1 (F2.of hF2) hC2 (hT1.kp (fun j hj => hF2.1 _ (by omega)))

theorem c_X8_unlink {w : Wd} {x : Nat} {G : Gme} (hX : RepX w x G) (y : Int32) (z : Int32) : MC 7 mX8_unlink 1 6 [.ref x, .int y, .int z] w (GXo w x (gMut G (oPart (gS G) y z))) := by
  obtain ⟨hX0, hL, hV, ⟨S9, hW9⟩, ⟨K, hH⟩, hRt, hTr, ⟨p9, e9, m9, y1, y2, hD⟩, hOu, hB⟩ := id hX
  have hwf := hL.wf
  have hnb := hwf.nb
  have hnt := hwf.nt
  refine MC_j pnX8 rfl rfl rfl (Or.inl (by decide)) ?_
  show J 7 mX8_unlink 0 [some (.ref x), some (.int y), some (.int z)] [] w 1 6 _
  refine J_aload_n dX8_unlink_0 rfl rfl ?_
  refine J_getfield dX8_unlink_1 fX8_25 hX0 rfl ?_
  refine J_aload_n dX8_unlink_4 rfl rfl ?_
  refine J_getfield dX8_unlink_5 fX8_12 hX0 rfl ?_
  refine K_callVp dX8_unlink_8 YX3_keep kX8_68 (RepH.rc hH) (c_X3_keep hH hL (by omega)) rfl rfl (Nat.le_of_ble_eq_true rfl) (by decide) (fun v8 w8 q8 => ?_)
  obtain ⟨rfl, hF1, hH1⟩ := q8
  have hX0 := (hF1.1 _ (by omega)).trans hX0
  have hL1 := hL.kept (fun j hj => hF1.1 _ (by omega))
  have hT1 := hTr.kp (fun j hj => hF1.1 _ (by omega))
  refine J_aload_n dX8_unlink_11 rfl rfl ?_
  refine J_aload_n dX8_unlink_12 rfl rfl ?_
  refine J_getfield dX8_unlink_13 fX8_12 hX0 rfl ?_
  refine J_iload_n dX8_unlink_16 rfl rfl ?_
  refine J_iload_n dX8_unlink_17 rfl rfl ?_
  refine K_callVp dX8_unlink_18 YX4_separate kX8_84 (RepC.rc hL1) (c_X4_separate hL1 y z) rfl rfl (Nat.le_of_ble_eq_true rfl) (by decide) (fun v18 w18 q18 => ?_)
  obtain ⟨rfl, hC2, hF2⟩ := q18
  exact J_mut rfl dX8_unlink_21 dX8_unlink_24 rfl (by decide) rfl (rok_part hwf y z) hX hF1 hH1 (F2.of hF2) hC2 (hT1.kp (fun j hj => hF2.1 _ (by omega)))

theorem c_X8_putCat {w : Wd} {x : Nat} {G : Gme} (hX : RepX w x G) (y : Int32) : MC 7 mX8_putCat 1 6 [.ref x, .int y] w (GXo w x (gMut G (oCat (gS G) y))) := by
  obtain ⟨hX0, hL, hV, ⟨S9, hW9⟩, ⟨K, hH⟩, hRt, hTr, ⟨p9, e9, m9, y1, y2, hD⟩, hOu, hB⟩ := id hX
  have hwf := hL.wf
  have hnb := hwf.nb
  have hnt := hwf.nt
  refine MC_j pnX8 rfl rfl rfl (Or.inl (by decide)) ?_
  show J 7 mX8_putCat 0 [some (.ref x), some (.int y)] [] w 1 6 _
  refine J_aload_n dX8_putCat_0 rfl rfl ?_
  refine J_getfield dX8_putCat_1 fX8_25 hX0 rfl ?_
  refine J_aload_n dX8_putCat_4 rfl rfl ?_
  refine J_getfield dX8_putCat_5 fX8_12 hX0 rfl ?_
  refine K_callVp dX8_putCat_8 YX3_keep kX8_68 (RepH.rc hH) (c_X3_keep hH hL (by omega)) rfl rfl (Nat.le_of_ble_eq_true rfl) (by decide) (fun v8 w8 q8 => ?_)
  obtain ⟨rfl, hF1, hH1⟩ := q8
  have hX0 := (hF1.1 _ (by omega)).trans hX0
  have hL1 := hL.kept (fun j hj => hF1.1 _ (by omega))
  have hT1 := hTr.kp (fun j hj => hF1.1 _ (by omega))
  refine J_aload_n dX8_putCat_11 rfl rfl ?_
  refine J_aload_n dX8_putCat_12 rfl rfl ?_
  refine J_getfield dX8_putCat_13 fX8_12 hX0 rfl ?_
  refine J_iload_n dX8_putCat_16 rfl rfl ?_
  refine K_callVp dX8_putCat_17 YX4_seatCat kX8_87 (RepC.rc hL1) (c_X4_seatCat hL1 y) rfl rfl (Nat.le_of_ble_eq_true rfl) (by decide) (fun v17 w17 q17 => ?_)
  obtain ⟨rfl, hC2, hF2⟩ := q17
  exact J_mut rfl dX8_putCat_20 dX8_putCat_23 rfl (by decide) rfl (rok_cat hwf y) hX hF1 hH1 (F2.of hF2) hC2 (hT1.kp (fun j hj => hF2.1 _ (by omega)))

theorem c_X8_removeCat {w : Wd} {x : Nat} {G : Gme} (hX : RepX w x G) (y : Int32) : MC 7 mX8_removeCat 1 6 [.ref x, .int y] w (GXo w x (gMut G (oShoo (gS G) y))) := by
  obtain ⟨hX0, hL, hV, ⟨S9, hW9⟩, ⟨K, hH⟩, hRt, hTr, ⟨p9, e9, m9, y1, y2, hD⟩, hOu, hB⟩ := id hX
  have hwf := hL.wf
  have hnb := hwf.nb
  have hnt := hwf.nt
  refine MC_j pnX8 rfl rfl rfl (Or.inl (by decide)) ?_
  show J 7 mX8_removeCat 0 [some (.ref x), some (.int y)] [] w 1 6 _
  refine J_aload_n dX8_removeCat_0 rfl rfl ?_
  refine J_getfield dX8_removeCat_1 fX8_25 hX0 rfl ?_
  refine J_aload_n dX8_removeCat_4 rfl rfl ?_
  refine J_getfield dX8_removeCat_5 fX8_12 hX0 rfl ?_
  refine K_callVp dX8_removeCat_8 YX3_keep kX8_68 (RepH.rc hH) (c_X3_keep hH hL (by omega)) rfl rfl (Nat.le_of_ble_eq_true rfl) (by decide) (fun v8 w8 q8 => ?_)
  obtain ⟨rfl, hF1, hH1⟩ := q8
  have hX0 := (hF1.1 _ (by omega)).trans hX0
  have hL1 := hL.kept (fun j hj => hF1.1 _ (by omega))
  have hT1 := hTr.kp (fun j hj => hF1.1 _ (by omega))
  refine J_aload_n dX8_removeCat_11 rfl rfl ?_
  refine J_aload_n dX8_removeCat_12 rfl rfl ?_
  refine J_getfield dX8_removeCat_13 fX8_12 hX0 rfl ?_
  refine J_iload_n dX8_removeCat_16 rfl rfl ?_
  refine K_callVp dX8_removeCat_17 YX4_liftCat kX8_90 (RepC.rc hL1) (c_X4_liftCat hL1 y) rfl rfl (Nat.le_of_ble_eq_true rfl) (by decide) (fun v17 w17 q17 => ?_)
  obtain ⟨rfl, hC2, hF2⟩ := q17
  exact J_mut rfl dX8_removeCat_20 dX8_removeCat_23 rfl (by decide) rfl (rok_shoo hwf y) hX hF1 hH1 (F2.of hF2) hC2 (hT1.kp (fun j hj => hF2.1 _ (by omega)))

theorem c_X8_addTrain {w : Wd} {x : Nat} {G : Gme} (hX : RepX w x G) (y : Int32) (z : Int32) : MC 7 mX8_addTrain 1 6 [.ref x, .int y, .int z] w (GXo w x (gMut G (oTrain (gS G) y z))) := by
  obtain ⟨hX0, hL, hV, ⟨S9, hW9⟩, ⟨K, hH⟩, hRt, hTr, ⟨p9, e9, m9, y1, y2, hD⟩, hOu, hB⟩ := id hX
  have hwf := hL.wf
  have hnb := hwf.nb
  have hnt := hwf.nt
  refine MC_j pnX8 rfl rfl rfl (Or.inl (by decide)) ?_
  show J 7 mX8_addTrain 0 [some (.ref x), some (.int y), some (.int z)] [] w 1 6 _
  refine J_aload_n dX8_addTrain_0 rfl rfl ?_
  refine J_getfield dX8_addTrain_1 fX8_25 hX0 rfl ?_
  refine J_aload_n dX8_addTrain_4 rfl rfl ?_
  refine J_getfield dX8_addTrain_5 fX8_12 hX0 rfl ?_
  refine K_callVp dX8_addTrain_8 YX3_keep kX8_68 (RepH.rc hH) (c_X3_keep hH hL (by omega)) rfl rfl (Nat.le_of_ble_eq_true rfl) (by decide) (fun v8 w8 q8 => ?_)
  obtain ⟨rfl, hF1, hH1⟩ := q8
  have hX0 := (hF1.1 _ (by omega)).trans hX0
  have hL1 := hL.kept (fun j hj => hF1.1 _ (by omega))
  have hT1 := hTr.kp (fun j hj => hF1.1 _ (by omega))
  refine J_aload_n dX8_addTrain_11 rfl rfl ?_
  refine J_aload_n dX8_addTrain_12 rfl rfl ?_
  refine J_getfield dX8_addTrain_13 fX8_12 hX0 rfl ?_
  refine J_iload_n dX8_addTrain_16 rfl rfl ?_
  refine J_iload_n dX8_addTrain_17 rfl rfl ?_
  refine K_callVp dX8_addTrain_18 YX4_placeTrain kX8_168 (RepC.rc hL1) (c_X4_placeTrain hL1 y z) rfl rfl (Nat.le_of_ble_eq_true rfl) (by decide) (fun v18 w18 q18 => ?_)
  obtain ⟨rfl, hC2, hF2⟩ := q18
  exact J_mut rfl dX8_addTrain_21 dX8_addTrain_24 rfl (by decide) rfl (rok_train hwf y z) hX hF1 hH1 (F2.of hF2) hC2 (hT1.kp (fun j hj => hF2.1 _ (by omega)))

theorem c_X8_setGoal {w : Wd} {x : Nat} {G : Gme} (hX : RepX w x G) (y : Int32) (z : Int32) : MC 7 mX8_setGoal 1 6 [.ref x, .int y, .int z] w (GXo w x (gMut G (oAim (gS G) y z))) := by
  obtain ⟨hX0, hL, hV, ⟨S9, hW9⟩, ⟨K, hH⟩, hRt, hTr, ⟨p9, e9, m9, y1, y2, hD⟩, hOu, hB⟩ := id hX
  have hwf := hL.wf
  have hnb := hwf.nb
  have hnt := hwf.nt
  refine MC_j pnX8 rfl rfl rfl (Or.inl (by decide)) ?_
  show J 7 mX8_setGoal 0 [some (.ref x), some (.int y), some (.int z)] [] w 1 6 _
  refine J_aload_n dX8_setGoal_0 rfl rfl ?_
  refine J_getfield dX8_setGoal_1 fX8_25 hX0 rfl ?_
  refine J_aload_n dX8_setGoal_4 rfl rfl ?_
  refine J_getfield dX8_setGoal_5 fX8_12 hX0 rfl ?_
  refine K_callVp dX8_setGoal_8 YX3_keep kX8_68 (RepH.rc hH) (c_X3_keep hH hL (by omega)) rfl rfl (Nat.le_of_ble_eq_true rfl) (by decide) (fun v8 w8 q8 => ?_)
  obtain ⟨rfl, hF1, hH1⟩ := q8
  have hX0 := (hF1.1 _ (by omega)).trans hX0
  have hL1 := hL.kept (fun j hj => hF1.1 _ (by omega))
  have hT1 := hTr.kp (fun j hj => hF1.1 _ (by omega))
  refine J_aload_n dX8_setGoal_11 rfl rfl ?_
  refine J_aload_n dX8_setGoal_12 rfl rfl ?_
  refine J_getfield dX8_setGoal_13 fX8_39 hX0 rfl ?_
  refine J_aload_n dX8_setGoal_16 rfl rfl ?_
  refine J_getfield dX8_setGoal_17 fX8_12 hX0 rfl ?_
  refine J_iload_n dX8_setGoal_20 rfl rfl ?_
  refine J_iload_n dX8_setGoal_21 rfl rfl ?_
  refine K_callVp dX8_setGoal_22 YX7_aim kX8_171 (RepT.rc hT1) (c_X7_aim hT1 hL1 (by omega) y z) rfl rfl (Nat.le_of_ble_eq_true rfl) (by decide) (fun v22 w22 q22 => ?_)
  obtain ⟨rfl, hC2, hT2, hF2⟩ := q22
  exact J_mut rfl dX8_setGoal_25 dX8_setGoal_28 rfl (by decide) rfl (rok_aim hwf y z) hX hF1 hH1 hF2 hC2 hT2

theorem c_X8_clearGoal {w : Wd} {x : Nat} {G : Gme} (hX : RepX w x G) (y : Int32) : MC 7 mX8_clearGoal 1 6 [.ref x, .int y] w (GXo w x (gMut G (oDrop (gS G) y))) := by
  obtain ⟨hX0, hL, hV, ⟨S9, hW9⟩, ⟨K, hH⟩, hRt, hTr, ⟨p9, e9, m9, y1, y2, hD⟩, hOu, hB⟩ := id hX
  have hwf := hL.wf
  have hnb := hwf.nb
  have hnt := hwf.nt
  refine MC_j pnX8 rfl rfl rfl (Or.inl (by decide)) ?_
  show J 7 mX8_clearGoal 0 [some (.ref x), some (.int y)] [] w 1 6 _
  refine J_aload_n dX8_clearGoal_0 rfl rfl ?_
  refine J_getfield dX8_clearGoal_1 fX8_25 hX0 rfl ?_
  refine J_aload_n dX8_clearGoal_4 rfl rfl ?_
  refine J_getfield dX8_clearGoal_5 fX8_12 hX0 rfl ?_
  refine K_callVp dX8_clearGoal_8 YX3_keep kX8_68 (RepH.rc hH) (c_X3_keep hH hL (by omega)) rfl rfl (Nat.le_of_ble_eq_true rfl) (by decide) (fun v8 w8 q8 => ?_)
  obtain ⟨rfl, hF1, hH1⟩ := q8
  have hX0 := (hF1.1 _ (by omega)).trans hX0
  have hL1 := hL.kept (fun j hj => hF1.1 _ (by omega))
  have hT1 := hTr.kp (fun j hj => hF1.1 _ (by omega))
  refine J_aload_n dX8_clearGoal_11 rfl rfl ?_
  refine J_aload_n dX8_clearGoal_12 rfl rfl ?_
  refine J_getfield dX8_clearGoal_13 fX8_12 hX0 rfl ?_
  refine J_iload_n dX8_clearGoal_16 rfl rfl ?_
  refine K_callVp dX8_clearGoal_17 YX4_dropGoal kX8_175 (RepC.rc hL1) (c_X4_dropGoal hL1 y) rfl rfl (Nat.le_of_ble_eq_true rfl) (by decide) (fun v17 w17 q17 => ?_)
  obtain ⟨rfl, hC2, hF2⟩ := q17
  exact J_mut rfl dX8_clearGoal_20 dX8_clearGoal_23 rfl (by decide) rfl (rok_drop hwf y) hX hF1 hH1 (F2.of hF2) hC2 (hT1.kp (fun j hj => hF2.1 _ (by omega)))

theorem c_X8_reserve {w : Wd} {x : Nat} {G : Gme} (hX : RepX w x G) (y : Int32) (z : Int32) : MC 7 mX8_reserve 1 6 [.ref x, .int y, .int z] w (GXo w x (gMut G (oHold (gS G) y z))) := by
  obtain ⟨hX0, hL, hV, ⟨S9, hW9⟩, ⟨K, hH⟩, hRt, hTr, ⟨p9, e9, m9, y1, y2, hD⟩, hOu, hB⟩ := id hX
  have hwf := hL.wf
  have hnb := hwf.nb
  have hnt := hwf.nt
  refine MC_j pnX8 rfl rfl rfl (Or.inl (by decide)) ?_
  show J 7 mX8_reserve 0 [some (.ref x), some (.int y), some (.int z)] [] w 1 6 _
  refine J_aload_n dX8_reserve_0 rfl rfl ?_
  refine J_getfield dX8_reserve_1 fX8_25 hX0 rfl ?_
  refine J_aload_n dX8_reserve_4 rfl rfl ?_
  refine J_getfield dX8_reserve_5 fX8_12 hX0 rfl ?_
  refine K_callVp dX8_reserve_8 YX3_keep kX8_68 (RepH.rc hH) (c_X3_keep hH hL (by omega)) rfl rfl (Nat.le_of_ble_eq_true rfl) (by decide) (fun v8 w8 q8 => ?_)
  obtain ⟨rfl, hF1, hH1⟩ := q8
  have hX0 := (hF1.1 _ (by omega)).trans hX0
  have hL1 := hL.kept (fun j hj => hF1.1 _ (by omega))
  have hT1 := hTr.kp (fun j hj => hF1.1 _ (by omega))
  refine J_aload_n dX8_reserve_11 rfl rfl ?_
  refine J_aload_n dX8_reserve_12 rfl rfl ?_
  refine J_getfield dX8_reserve_13 fX8_12 hX0 rfl ?_
  refine J_iload_n dX8_reserve_16 rfl rfl ?_
  refine J_iload_n dX8_reserve_17 rfl rfl ?_
  refine K_callVp dX8_reserve_18 YX4_hold kX8_178 (RepC.rc hL1) (c_X4_hold hL1 y z) rfl rfl (Nat.le_of_ble_eq_true rfl) (by decide) (fun v18 w18 q18 => ?_)
  obtain ⟨rfl, hC2, hF2⟩ := q18
  exact J_mut rfl dX8_reserve_21 dX8_reserve_24 rfl (by decide) rfl (rok_hold hwf y z) hX hF1 hH1 (F2.of hF2) hC2 (hT1.kp (fun j hj => hF2.1 _ (by omega)))

theorem c_X8_cancelReservation {w : Wd} {x : Nat} {G : Gme} (hX : RepX w x G) (y : Int32) : MC 7 mX8_cancelReservation 1 6 [.ref x, .int y] w (GXo w x (gMut G (oFree (gS G) y))) := by
  obtain ⟨hX0, hL, hV, ⟨S9, hW9⟩, ⟨K, hH⟩, hRt, hTr, ⟨p9, e9, m9, y1, y2, hD⟩, hOu, hB⟩ := id hX
  have hwf := hL.wf
  have hnb := hwf.nb
  have hnt := hwf.nt
  refine MC_j pnX8 rfl rfl rfl (Or.inl (by decide)) ?_
  show J 7 mX8_cancelReservation 0 [some (.ref x), some (.int y)] [] w 1 6 _
  refine J_aload_n dX8_cancelReservation_0 rfl rfl ?_
  refine J_getfield dX8_cancelReservation_1 fX8_25 hX0 rfl ?_
  refine J_aload_n dX8_cancelReservation_4 rfl rfl ?_
  refine J_getfield dX8_cancelReservation_5 fX8_12 hX0 rfl ?_
  refine K_callVp dX8_cancelReservation_8 YX3_keep kX8_68 (RepH.rc hH) (c_X3_keep hH hL (by omega)) rfl rfl (Nat.le_of_ble_eq_true rfl) (by decide) (fun v8 w8 q8 => ?_)
  obtain ⟨rfl, hF1, hH1⟩ := q8
  have hX0 := (hF1.1 _ (by omega)).trans hX0
  have hL1 := hL.kept (fun j hj => hF1.1 _ (by omega))
  have hT1 := hTr.kp (fun j hj => hF1.1 _ (by omega))
  refine J_aload_n dX8_cancelReservation_11 rfl rfl ?_
  refine J_aload_n dX8_cancelReservation_12 rfl rfl ?_
  refine J_getfield dX8_cancelReservation_13 fX8_12 hX0 rfl ?_
  refine J_iload_n dX8_cancelReservation_16 rfl rfl ?_
  refine K_callVp dX8_cancelReservation_17 YX4_release kX8_181 (RepC.rc hL1) (c_X4_release hL1 y) rfl rfl (Nat.le_of_ble_eq_true rfl) (by decide) (fun v17 w17 q17 => ?_)
  obtain ⟨rfl, hC2, hF2⟩ := q17
  exact J_mut rfl dX8_cancelReservation_20 dX8_cancelReservation_23 rfl (by decide) rfl (rok_free hwf y) hX hF1 hH1 (F2.of hF2) hC2 (hT1.kp (fun j hj => hF2.1 _ (by omega)))

theorem c_X8_rescue {w : Wd} {x : Nat} {G : Gme} (hX : RepX w x G) (y : Int32) : MC 7 mX8_rescue 1 6 [.ref x, .int y] w (GXo w x (gMut G (oResc (gS G) y))) := by
  obtain ⟨hX0, hL, hV, ⟨S9, hW9⟩, ⟨K, hH⟩, hRt, hTr, ⟨p9, e9, m9, y1, y2, hD⟩, hOu, hB⟩ := id hX
  have hwf := hL.wf
  have hnb := hwf.nb
  have hnt := hwf.nt
  refine MC_j pnX8 rfl rfl rfl (Or.inl (by decide)) ?_
  show J 7 mX8_rescue 0 [some (.ref x), some (.int y)] [] w 1 6 _
  refine J_aload_n dX8_rescue_0 rfl rfl ?_
  refine J_getfield dX8_rescue_1 fX8_25 hX0 rfl ?_
  refine J_aload_n dX8_rescue_4 rfl rfl ?_
  refine J_getfield dX8_rescue_5 fX8_12 hX0 rfl ?_
  refine K_callVp dX8_rescue_8 YX3_keep kX8_68 (RepH.rc hH) (c_X3_keep hH hL (by omega)) rfl rfl (Nat.le_of_ble_eq_true rfl) (by decide) (fun v8 w8 q8 => ?_)
  obtain ⟨rfl, hF1, hH1⟩ := q8
  have hX0 := (hF1.1 _ (by omega)).trans hX0
  have hL1 := hL.kept (fun j hj => hF1.1 _ (by omega))
  have hT1 := hTr.kp (fun j hj => hF1.1 _ (by omega))
  refine J_aload_n dX8_rescue_11 rfl rfl ?_
  refine J_aload_n dX8_rescue_12 rfl rfl ?_
  refine J_getfield dX8_rescue_13 fX8_12 hX0 rfl ?_
  refine J_iload_n dX8_rescue_16 rfl rfl ?_
  refine K_callVp dX8_rescue_17 YX4_rerail kX8_184 (RepC.rc hL1) (c_X4_rerail hL1 y) rfl rfl (Nat.le_of_ble_eq_true rfl) (by decide) (fun v17 w17 q17 => ?_)
  obtain ⟨rfl, hC2, hF2⟩ := q17
  exact J_mut rfl dX8_rescue_20 dX8_rescue_23 rfl (by decide) rfl (rok_resc hwf y) hX hF1 hH1 (F2.of hF2) hC2 (hT1.kp (fun j hj => hF2.1 _ (by omega)))

theorem c_X8_passTicks {w : Wd} {x : Nat} {G : Gme} (hX : RepX w x G) (y : Int32) : MC 7 mX8_passTicks 1 6 [.ref x, .int y] w (GXo w x (gMut G (oTick (gS G) y))) := by
  obtain ⟨hX0, hL, hV, ⟨S9, hW9⟩, ⟨K, hH⟩, hRt, hTr, ⟨p9, e9, m9, y1, y2, hD⟩, hOu, hB⟩ := id hX
  have hwf := hL.wf
  have hnb := hwf.nb
  have hnt := hwf.nt
  refine MC_j pnX8 rfl rfl rfl (Or.inl (by decide)) ?_
  show J 7 mX8_passTicks 0 [some (.ref x), some (.int y)] [] w 1 6 _
  refine J_aload_n dX8_passTicks_0 rfl rfl ?_
  refine J_getfield dX8_passTicks_1 fX8_25 hX0 rfl ?_
  refine J_aload_n dX8_passTicks_4 rfl rfl ?_
  refine J_getfield dX8_passTicks_5 fX8_12 hX0 rfl ?_
  refine K_callVp dX8_passTicks_8 YX3_keep kX8_68 (RepH.rc hH) (c_X3_keep hH hL (by omega)) rfl rfl (Nat.le_of_ble_eq_true rfl) (by decide) (fun v8 w8 q8 => ?_)
  obtain ⟨rfl, hF1, hH1⟩ := q8
  have hX0 := (hF1.1 _ (by omega)).trans hX0
  have hL1 := hL.kept (fun j hj => hF1.1 _ (by omega))
  have hT1 := hTr.kp (fun j hj => hF1.1 _ (by omega))
  refine J_aload_n dX8_passTicks_11 rfl rfl ?_
  refine J_aload_n dX8_passTicks_12 rfl rfl ?_
  refine J_getfield dX8_passTicks_13 fX8_39 hX0 rfl ?_
  refine J_aload_n dX8_passTicks_16 rfl rfl ?_
  refine J_getfield dX8_passTicks_17 fX8_12 hX0 rfl ?_
  refine J_iload_n dX8_passTicks_20 rfl rfl ?_
  refine K_callVp dX8_passTicks_21 YX7_letPass kX8_220 (RepT.rc hT1) (c_X7_letPass hT1 hL1 (by omega) y) rfl rfl (Nat.le_of_ble_eq_true rfl) (by decide) (fun v21 w21 q21 => ?_)
  obtain ⟨rfl, hC2, hT2, hF2⟩ := q21
  exact J_mut rfl dX8_passTicks_24 dX8_passTicks_27 rfl (by decide) rfl (rok_tick hwf y) hX hF1 hH1 hF2 hC2 hT2

end JFACE

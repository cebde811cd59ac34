/-! THE LAW: its helpers -/
section JHELP
theorem c_L_addBlock {w : Wd} {x : Nat} {G : Gme} (hX : RepX w x G) (y : Int32) : MC 8 mL_addBlock 1 6 [.ref x, .int y] w (HV w x (gMut G (oAdd (gS G) y false)).2.2 (lvR (gMut G (oAdd (gS G) y false)))) := by
  refine MC_ofH pnL rfl (fun v hv => by simp only [List.mem_cons, List.not_mem_nil, or_false] at hv; rcases hv with rfl | rfl <;> rfl) (Nat.le_of_ble_eq_true rfl) (fun E w h => RP_no E w h) ?_
  show J 8 mL_addBlock 0 [some (.ref x), some (.int y), none] [] w 1 6 _
  refine J_aload_n dL_addBlock_0 rfl rfl ?_
  refine J_iload_n dL_addBlock_1 rfl rfl ?_
  refine J_callV (mi := mL_addBlock) (pc := 2) (kb := 0) (sb := 0) dL_addBlock_2 YX8_addBlock kL_14 hX.rc (c_X8_addBlock hX y) rfl rfl (Nat.le_of_ble_eq_true rfl) (by decide) (fun v w1 q => ?_) (fun E w1 q => ?_)
  · obtain ⟨e, rfl⟩ := GXo_V q
    exact J_ireturn dL_addBlock_5 rfl rfl (HV_ok q e rfl)
  · obtain ⟨e, rfl⟩ := GXo_E q
    rcases lc_addBlock G y with hc | hc | hc
    · exact absurd hc e
    · have q2 := q
      rw [hc]
      refine JX_catch (i := 2) (pre := []) (x := ⟨0, 5, 6, 20⟩) (suf := [⟨0, 5, 10, 22⟩]) rfl (fun y hy => by cases hy) rfl (by decide) clL_20 (OL_in (T3 (List.mem_of_getElem? (i := 33) rfl)) rfl) (Or.inl ⟨dL_addBlock_6, rfl, 1, rfl, ?_⟩) (by decide) rfl
      refine J_bipush (v := (-78)) dL_addBlock_7 (by decide) ?_
      exact J_ireturn dL_addBlock_9 rfl rfl (HV_no q2 hc (by decide) rfl)
    · have q2 := q
      rw [hc]
      refine JX_catch (i := 2) (pre := [⟨0, 5, 6, 20⟩]) (x := ⟨0, 5, 10, 22⟩) (suf := []) rfl (List.forall_mem_cons.mpr ⟨Or.inr ⟨by decide, _, clL_20, List.mem_of_getElem? (i := 1) rfl⟩, fun y hy => by cases hy⟩) rfl (by decide) clL_22 (OL_in (T3 (List.mem_of_getElem? (i := 49) rfl)) rfl) (Or.inl ⟨dL_addBlock_10, rfl, 1, rfl, ?_⟩) (by decide) rfl
      refine J_bipush (v := (-79)) dL_addBlock_11 (by decide) ?_
      exact J_ireturn dL_addBlock_13 rfl rfl (HV_no q2 hc (by decide) rfl)

theorem c_L_addCushion {w : Wd} {x : Nat} {G : Gme} (hX : RepX w x G) (y : Int32) : MC 8 mL_addCushion 1 6 [.ref x, .int y] w (HV w x (gMut G (oAdd (gS G) y true)).2.2 (lvR (gMut G (oAdd (gS G) y true)))) := by
  refine MC_ofH pnL rfl (fun v hv => by simp only [List.mem_cons, List.not_mem_nil, or_false] at hv; rcases hv with rfl | rfl <;> rfl) (Nat.le_of_ble_eq_true rfl) (fun E w h => RP_no E w h) ?_
  show J 8 mL_addCushion 0 [some (.ref x), some (.int y), none] [] w 1 6 _
  refine J_aload_n dL_addCushion_0 rfl rfl ?_
  refine J_iload_n dL_addCushion_1 rfl rfl ?_
  refine J_callV (mi := mL_addCushion) (pc := 2) (kb := 0) (sb := 0) dL_addCushion_2 YX8_addCushion kL_24 hX.rc (c_X8_addCushion hX y) rfl rfl (Nat.le_of_ble_eq_true rfl) (by decide) (fun v w1 q => ?_) (fun E w1 q => ?_)
  · obtain ⟨e, rfl⟩ := GXo_V q
    exact J_ireturn dL_addCushion_5 rfl rfl (HV_ok q e rfl)
  · obtain ⟨e, rfl⟩ := GXo_E q
    rcases lc_addCushion G y with hc | hc | hc
    · exact absurd hc e
    · have q2 := q
      rw [hc]
      refine JX_catch (i := 2) (pre := []) (x := ⟨0, 5, 6, 20⟩) (suf := [⟨0, 5, 10, 22⟩]) rfl (fun y hy => by cases hy) rfl (by decide) clL_20 (OL_in (T3 (List.mem_of_getElem? (i := 33) rfl)) rfl) (Or.inl ⟨dL_addCushion_6, rfl, 1, rfl, ?_⟩) (by decide) rfl
      refine J_bipush (v := (-78)) dL_addCushion_7 (by decide) ?_
      exact J_ireturn dL_addCushion_9 rfl rfl (HV_no q2 hc (by decide) rfl)
    · have q2 := q
      rw [hc]
      refine JX_catch (i := 2) (pre := [⟨0, 5, 6, 20⟩]) (x := ⟨0, 5, 10, 22⟩) (suf := []) rfl (List.forall_mem_cons.mpr ⟨Or.inr ⟨by decide, _, clL_20, List.mem_of_getElem? (i := 1) rfl⟩, fun y hy => by cases hy⟩) rfl (by decide) clL_22 (OL_in (T3 (List.mem_of_getElem? (i := 49) rfl)) rfl) (Or.inl ⟨dL_addCushion_10, rfl, 1, rfl, ?_⟩) (by decide) rfl
      refine J_bipush (v := (-79)) dL_addCushion_11 (by decide) ?_
      exact J_ireturn dL_addCushion_13 rfl rfl (HV_no q2 hc (by decide) rfl)

theorem c_L_link {w : Wd} {x : Nat} {G : Gme} (hX : RepX w x G) (y z : Int32) : MC 8 mL_link 1 6 [.ref x, .int y, .int z] w (HV w x (gMut G (oJoin (gS G) y z)).2.2 (lvR (gMut G (oJoin (gS G) y z)))) := by
  refine MC_ofH pnL rfl (fun v hv => by simp only [List.mem_cons, List.not_mem_nil, or_false] at hv; rcases hv with rfl | rfl | rfl <;> rfl) (Nat.le_of_ble_eq_true rfl) (fun E w h => RP_no E w h) ?_
  show J 8 mL_link 0 [some (.ref x), some (.int y), some (.int z), none] [] w 1 6 _
  refine J_aload_n dL_link_0 rfl rfl ?_
  refine J_iload_n dL_link_1 rfl rfl ?_
  refine J_iload_n dL_link_2 rfl rfl ?_
  refine J_callV (mi := mL_link) (pc := 3) (kb := 0) (sb := 0) dL_link_3 YX8_link kL_27 hX.rc (c_X8_link hX y z) rfl rfl (Nat.le_of_ble_eq_true rfl) (by decide) (fun v w1 q => ?_) (fun E w1 q => ?_)
  · obtain ⟨e, rfl⟩ := GXo_V q
    exact J_ireturn dL_link_6 rfl rfl (HV_ok q e rfl)
  · obtain ⟨e, rfl⟩ := GXo_E q
    rcases lc_link G y z with hc | hc | hc | hc
    · exact absurd hc e
    · have q2 := q
      rw [hc]
      refine JX_catch (i := 3) (pre := []) (x := ⟨0, 6, 7, 31⟩) (suf := [⟨0, 6, 11, 20⟩, ⟨0, 6, 15, 22⟩]) rfl (fun y hy => by cases hy) rfl (by decide) clL_31 (OL_in (T2 (List.mem_of_getElem? (i := 142) rfl)) rfl) (Or.inl ⟨dL_link_7, rfl, 1, rfl, ?_⟩) (by decide) rfl
      refine J_bipush (v := (-77)) dL_link_8 (by decide) ?_
      exact J_ireturn dL_link_10 rfl rfl (HV_no q2 hc (by decide) rfl)
    · have q2 := q
      rw [hc]
      refine JX_catch (i := 3) (pre := [⟨0, 6, 7, 31⟩]) (x := ⟨0, 6, 11, 20⟩) (suf := [⟨0, 6, 15, 22⟩]) rfl (List.forall_mem_cons.mpr ⟨Or.inr ⟨by decide, _, clL_31, List.mem_of_getElem? (i := 12) rfl⟩, fun y hy => by cases hy⟩) rfl (by decide) clL_20 (OL_in (T3 (List.mem_of_getElem? (i := 33) rfl)) rfl) (Or.inl ⟨dL_link_11, rfl, 1, rfl, ?_⟩) (by decide) rfl
      refine J_bipush (v := (-78)) dL_link_12 (by decide) ?_
      exact J_ireturn dL_link_14 rfl rfl (HV_no q2 hc (by decide) rfl)
    · have q2 := q
      rw [hc]
      refine JX_catch (i := 3) (pre := [⟨0, 6, 7, 31⟩, ⟨0, 6, 11, 20⟩]) (x := ⟨0, 6, 15, 22⟩) (suf := []) rfl (List.forall_mem_cons.mpr ⟨Or.inr ⟨by decide, _, clL_31, List.mem_of_getElem? (i := 13) rfl⟩, List.forall_mem_cons.mpr ⟨Or.inr ⟨by decide, _, clL_20, List.mem_of_getElem? (i := 1) rfl⟩, fun y hy => by cases hy⟩⟩) rfl (by decide) clL_22 (OL_in (T3 (List.mem_of_getElem? (i := 49) rfl)) rfl) (Or.inl ⟨dL_link_15, rfl, 1, rfl, ?_⟩) (by decide) rfl
      refine J_bipush (v := (-79)) dL_link_16 (by decide) ?_
      exact J_ireturn dL_link_18 rfl rfl (HV_no q2 hc (by decide) rfl)

theorem c_L_unlink {w : Wd} {x : Nat} {G : Gme} (hX : RepX w x G) (y z : Int32) : MC 8 mL_unlink 1 6 [.ref x, .int y, .int z] w (HV w x (gMut G (oPart (gS G) y z)).2.2 (lvR (gMut G (oPart (gS G) y z)))) := by
  refine MC_ofH pnL rfl (fun v hv => by simp only [List.mem_cons, List.not_mem_nil, or_false] at hv; rcases hv with rfl | rfl | rfl <;> rfl) (Nat.le_of_ble_eq_true rfl) (fun E w h => RP_no E w h) ?_
  show J 8 mL_unlink 0 [some (.ref x), some (.int y), some (.int z), none] [] w 1 6 _
  refine J_aload_n dL_unlink_0 rfl rfl ?_
  refine J_iload_n dL_unlink_1 rfl rfl ?_
  refine J_iload_n dL_unlink_2 rfl rfl ?_
  refine J_callV (mi := mL_unlink) (pc := 3) (kb := 0) (sb := 0) dL_unlink_3 YX8_unlink kL_33 hX.rc (c_X8_unlink hX y z) rfl rfl (Nat.le_of_ble_eq_true rfl) (by decide) (fun v w1 q => ?_) (fun E w1 q => ?_)
  · obtain ⟨e, rfl⟩ := GXo_V q
    exact J_ireturn dL_unlink_6 rfl rfl (HV_ok q e rfl)
  · obtain ⟨e, rfl⟩ := GXo_E q
    rcases lc_unlink G y z with hc | hc | hc
    · exact absurd hc e
    · have q2 := q
      rw [hc]
      refine JX_catch (i := 3) (pre := []) (x := ⟨0, 6, 7, 31⟩) (suf := [⟨0, 6, 11, 36⟩]) rfl (fun y hy => by cases hy) rfl (by decide) clL_31 (OL_in (T2 (List.mem_of_getElem? (i := 142) rfl)) rfl) (Or.inl ⟨dL_unlink_7, rfl, 1, rfl, ?_⟩) (by decide) rfl
      refine J_bipush (v := (-77)) dL_unlink_8 (by decide) ?_
      exact J_ireturn dL_unlink_10 rfl rfl (HV_no q2 hc (by decide) rfl)
    · have q2 := q
      rw [hc]
      refine JX_catch (i := 3) (pre := [⟨0, 6, 7, 31⟩]) (x := ⟨0, 6, 11, 36⟩) (suf := []) rfl (List.forall_mem_cons.mpr ⟨Or.inr ⟨by decide, _, clL_31, List.mem_of_getElem? (i := 15) rfl⟩, fun y hy => by cases hy⟩) rfl (by decide) clL_36 (OL_in (T2 (List.mem_of_getElem? (i := 158) rfl)) rfl) (Or.inl ⟨dL_unlink_11, rfl, 1, rfl, ?_⟩) (by decide) rfl
      refine J_bipush (v := (-75)) dL_unlink_12 (by decide) ?_
      exact J_ireturn dL_unlink_14 rfl rfl (HV_no q2 hc (by decide) rfl)

theorem c_L_putCat {w : Wd} {x : Nat} {G : Gme} (hX : RepX w x G) (y : Int32) : MC 8 mL_putCat 1 6 [.ref x, .int y] w (HV w x (gMut G (oCat (gS G) y)).2.2 (lvR (gMut G (oCat (gS G) y)))) := by
  refine MC_ofH pnL rfl (fun v hv => by simp only [List.mem_cons, List.not_mem_nil, or_false] at hv; rcases hv with rfl | rfl <;> rfl) (Nat.le_of_ble_eq_true rfl) (fun E w h => RP_no E w h) ?_
  show J 8 mL_putCat 0 [some (.ref x), some (.int y), none] [] w 1 6 _
  refine J_aload_n dL_putCat_0 rfl rfl ?_
  refine J_iload_n dL_putCat_1 rfl rfl ?_
  refine J_callV (mi := mL_putCat) (pc := 2) (kb := 0) (sb := 0) dL_putCat_2 YX8_putCat kL_38 hX.rc (c_X8_putCat hX y) rfl rfl (Nat.le_of_ble_eq_true rfl) (by decide) (fun v w1 q => ?_) (fun E w1 q => ?_)
  · obtain ⟨e, rfl⟩ := GXo_V q
    exact J_ireturn dL_putCat_5 rfl rfl (HV_ok q e rfl)
  · obtain ⟨e, rfl⟩ := GXo_E q
    rcases lc_putCat G y with hc | hc | hc | hc
    · exact absurd hc e
    · have q2 := q
      rw [hc]
      refine JX_catch (i := 2) (pre := []) (x := ⟨0, 5, 6, 31⟩) (suf := [⟨0, 5, 10, 22⟩, ⟨0, 5, 14, 41⟩]) rfl (fun y hy => by cases hy) rfl (by decide) clL_31 (OL_in (T2 (List.mem_of_getElem? (i := 142) rfl)) rfl) (Or.inl ⟨dL_putCat_6, rfl, 1, rfl, ?_⟩) (by decide) rfl
      refine J_bipush (v := (-77)) dL_putCat_7 (by decide) ?_
      exact J_ireturn dL_putCat_9 rfl rfl (HV_no q2 hc (by decide) rfl)
    · have q2 := q
      rw [hc]
      refine JX_catch (i := 2) (pre := [⟨0, 5, 6, 31⟩]) (x := ⟨0, 5, 10, 22⟩) (suf := [⟨0, 5, 14, 41⟩]) rfl (List.forall_mem_cons.mpr ⟨Or.inr ⟨by decide, _, clL_31, List.mem_of_getElem? (i := 13) rfl⟩, fun y hy => by cases hy⟩) rfl (by decide) clL_22 (OL_in (T3 (List.mem_of_getElem? (i := 49) rfl)) rfl) (Or.inl ⟨dL_putCat_10, rfl, 1, rfl, ?_⟩) (by decide) rfl
      refine J_bipush (v := (-79)) dL_putCat_11 (by decide) ?_
      exact J_ireturn dL_putCat_13 rfl rfl (HV_no q2 hc (by decide) rfl)
    · have q2 := q
      rw [hc]
      refine JX_catch (i := 2) (pre := [⟨0, 5, 6, 31⟩, ⟨0, 5, 10, 22⟩]) (x := ⟨0, 5, 14, 41⟩) (suf := []) rfl (List.forall_mem_cons.mpr ⟨Or.inr ⟨by decide, _, clL_31, List.mem_of_getElem? (i := 14) rfl⟩, List.forall_mem_cons.mpr ⟨Or.inr ⟨by decide, _, clL_22, List.mem_of_getElem? (i := 8) rfl⟩, fun y hy => by cases hy⟩⟩) rfl (by decide) clL_41 (OL_in (T3 (List.mem_of_getElem? (i := 65) rfl)) rfl) (Or.inl ⟨dL_putCat_14, rfl, 1, rfl, ?_⟩) (by decide) rfl
      refine J_bipush (v := (-76)) dL_putCat_15 (by decide) ?_
      exact J_ireturn dL_putCat_17 rfl rfl (HV_no q2 hc (by decide) rfl)

theorem c_L_removeCat {w : Wd} {x : Nat} {G : Gme} (hX : RepX w x G) (y : Int32) : MC 8 mL_removeCat 1 6 [.ref x, .int y] w (HV w x (gMut G (oShoo (gS G) y)).2.2 (lvR (gMut G (oShoo (gS G) y)))) := by
  refine MC_ofH pnL rfl (fun v hv => by simp only [List.mem_cons, List.not_mem_nil, or_false] at hv; rcases hv with rfl | rfl <;> rfl) (Nat.le_of_ble_eq_true rfl) (fun E w h => RP_no E w h) ?_
  show J 8 mL_removeCat 0 [some (.ref x), some (.int y), none] [] w 1 6 _
  refine J_aload_n dL_removeCat_0 rfl rfl ?_
  refine J_iload_n dL_removeCat_1 rfl rfl ?_
  refine J_callV (mi := mL_removeCat) (pc := 2) (kb := 0) (sb := 0) dL_removeCat_2 YX8_removeCat kL_43 hX.rc (c_X8_removeCat hX y) rfl rfl (Nat.le_of_ble_eq_true rfl) (by decide) (fun v w1 q => ?_) (fun E w1 q => ?_)
  · obtain ⟨e, rfl⟩ := GXo_V q
    exact J_ireturn dL_removeCat_5 rfl rfl (HV_ok q e rfl)
  · obtain ⟨e, rfl⟩ := GXo_E q
    rcases lc_removeCat G y with hc | hc | hc
    · exact absurd hc e
    · have q2 := q
      rw [hc]
      refine JX_catch (i := 2) (pre := []) (x := ⟨0, 5, 6, 31⟩) (suf := [⟨0, 5, 10, 36⟩]) rfl (fun y hy => by cases hy) rfl (by decide) clL_31 (OL_in (T2 (List.mem_of_getElem? (i := 142) rfl)) rfl) (Or.inl ⟨dL_removeCat_6, rfl, 1, rfl, ?_⟩) (by decide) rfl
      refine J_bipush (v := (-77)) dL_removeCat_7 (by decide) ?_
      exact J_ireturn dL_removeCat_9 rfl rfl (HV_no q2 hc (by decide) rfl)
    · have q2 := q
      rw [hc]
      refine JX_catch (i := 2) (pre := [⟨0, 5, 6, 31⟩]) (x := ⟨0, 5, 10, 36⟩) (suf := []) rfl (List.forall_mem_cons.mpr ⟨Or.inr ⟨by decide, _, clL_31, List.mem_of_getElem? (i := 15) rfl⟩, fun y hy => by cases hy⟩) rfl (by decide) clL_36 (OL_in (T2 (List.mem_of_getElem? (i := 158) rfl)) rfl) (Or.inl ⟨dL_removeCat_10, rfl, 1, rfl, ?_⟩) (by decide) rfl
      refine J_bipush (v := (-75)) dL_removeCat_11 (by decide) ?_
      exact J_ireturn dL_removeCat_13 rfl rfl (HV_no q2 hc (by decide) rfl)

theorem c_L_addTrain {w : Wd} {x : Nat} {G : Gme} (hX : RepX w x G) (y z : Int32) : MC 8 mL_addTrain 1 6 [.ref x, .int y, .int z] w (HV w x (gMut G (oTrain (gS G) y z)).2.2 (lvR (gMut G (oTrain (gS G) y z)))) := by
  refine MC_ofH pnL rfl (fun v hv => by simp only [List.mem_cons, List.not_mem_nil, or_false] at hv; rcases hv with rfl | rfl | rfl <;> rfl) (Nat.le_of_ble_eq_true rfl) (fun E w h => RP_no E w h) ?_
  show J 8 mL_addTrain 0 [some (.ref x), some (.int y), some (.int z), none] [] w 1 6 _
  refine J_aload_n dL_addTrain_0 rfl rfl ?_
  refine J_iload_n dL_addTrain_1 rfl rfl ?_
  refine J_iload_n dL_addTrain_2 rfl rfl ?_
  refine J_callV (mi := mL_addTrain) (pc := 3) (kb := 0) (sb := 0) dL_addTrain_3 YX8_addTrain kL_85 hX.rc (c_X8_addTrain hX y z) rfl rfl (Nat.le_of_ble_eq_true rfl) (by decide) (fun v w1 q => ?_) (fun E w1 q => ?_)
  · obtain ⟨e, rfl⟩ := GXo_V q
    exact J_ireturn dL_addTrain_6 rfl rfl (HV_ok q e rfl)
  · obtain ⟨e, rfl⟩ := GXo_E q
    rcases lc_addTrain G y z with hc | hc | hc | hc | hc
    · exact absurd hc e
    · have q2 := q
      rw [hc]
      refine JX_catch (i := 3) (pre := []) (x := ⟨0, 6, 7, 31⟩) (suf := [⟨0, 6, 11, 20⟩, ⟨0, 6, 15, 22⟩, ⟨0, 6, 19, 41⟩]) rfl (fun y hy => by cases hy) rfl (by decide) clL_31 (OL_in (T2 (List.mem_of_getElem? (i := 142) rfl)) rfl) (Or.inl ⟨dL_addTrain_7, rfl, 1, rfl, ?_⟩) (by decide) rfl
      refine J_bipush (v := (-77)) dL_addTrain_8 (by decide) ?_
      exact J_ireturn dL_addTrain_10 rfl rfl (HV_no q2 hc (by decide) rfl)
    · have q2 := q
      rw [hc]
      refine JX_catch (i := 3) (pre := [⟨0, 6, 7, 31⟩]) (x := ⟨0, 6, 11, 20⟩) (suf := [⟨0, 6, 15, 22⟩, ⟨0, 6, 19, 41⟩]) rfl (List.forall_mem_cons.mpr ⟨Or.inr ⟨by decide, _, clL_31, List.mem_of_getElem? (i := 12) rfl⟩, fun y hy => by cases hy⟩) rfl (by decide) clL_20 (OL_in (T3 (List.mem_of_getElem? (i := 33) rfl)) rfl) (Or.inl ⟨dL_addTrain_11, rfl, 1, rfl, ?_⟩) (by decide) rfl
      refine J_bipush (v := (-78)) dL_addTrain_12 (by decide) ?_
      exact J_ireturn dL_addTrain_14 rfl rfl (HV_no q2 hc (by decide) rfl)
    · have q2 := q
      rw [hc]
      refine JX_catch (i := 3) (pre := [⟨0, 6, 7, 31⟩, ⟨0, 6, 11, 20⟩]) (x := ⟨0, 6, 15, 22⟩) (suf := [⟨0, 6, 19, 41⟩]) rfl (List.forall_mem_cons.mpr ⟨Or.inr ⟨by decide, _, clL_31, List.mem_of_getElem? (i := 13) rfl⟩, List.forall_mem_cons.mpr ⟨Or.inr ⟨by decide, _, clL_20, List.mem_of_getElem? (i := 1) rfl⟩, fun y hy => by cases hy⟩⟩) rfl (by decide) clL_22 (OL_in (T3 (List.mem_of_getElem? (i := 49) rfl)) rfl) (Or.inl ⟨dL_addTrain_15, rfl, 1, rfl, ?_⟩) (by decide) rfl
      refine J_bipush (v := (-79)) dL_addTrain_16 (by decide) ?_
      exact J_ireturn dL_addTrain_18 rfl rfl (HV_no q2 hc (by decide) rfl)
    · have q2 := q
      rw [hc]
      refine JX_catch (i := 3) (pre := [⟨0, 6, 7, 31⟩, ⟨0, 6, 11, 20⟩, ⟨0, 6, 15, 22⟩]) (x := ⟨0, 6, 19, 41⟩) (suf := []) rfl (List.forall_mem_cons.mpr ⟨Or.inr ⟨by decide, _, clL_31, List.mem_of_getElem? (i := 14) rfl⟩, List.forall_mem_cons.mpr ⟨Or.inr ⟨by decide, _, clL_20, List.mem_of_getElem? (i := 2) rfl⟩, List.forall_mem_cons.mpr ⟨Or.inr ⟨by decide, _, clL_22, List.mem_of_getElem? (i := 8) rfl⟩, fun y hy => by cases hy⟩⟩⟩) rfl (by decide) clL_41 (OL_in (T3 (List.mem_of_getElem? (i := 65) rfl)) rfl) (Or.inl ⟨dL_addTrain_19, rfl, 1, rfl, ?_⟩) (by decide) rfl
      refine J_bipush (v := (-76)) dL_addTrain_20 (by decide) ?_
      exact J_ireturn dL_addTrain_22 rfl rfl (HV_no q2 hc (by decide) rfl)

theorem c_L_setGoal {w : Wd} {x : Nat} {G : Gme} (hX : RepX w x G) (y z : Int32) : MC 8 mL_setGoal 1 6 [.ref x, .int y, .int z] w (HV w x (gMut G (oAim (gS G) y z)).2.2 (lvR (gMut G (oAim (gS G) y z)))) := by
  refine MC_ofH pnL rfl (fun v hv => by simp only [List.mem_cons, List.not_mem_nil, or_false] at hv; rcases hv with rfl | rfl | rfl <;> rfl) (Nat.le_of_ble_eq_true rfl) (fun E w h => RP_no E w h) ?_
  show J 8 mL_setGoal 0 [some (.ref x), some (.int y), some (.int z), none] [] w 1 6 _
  refine J_aload_n dL_setGoal_0 rfl rfl ?_
  refine J_iload_n dL_setGoal_1 rfl rfl ?_
  refine J_iload_n dL_setGoal_2 rfl rfl ?_
  refine J_callV (mi := mL_setGoal) (pc := 3) (kb := 0) (sb := 0) dL_setGoal_3 YX8_setGoal kL_88 hX.rc (c_X8_setGoal hX y z) rfl rfl (Nat.le_of_ble_eq_true rfl) (by decide) (fun v w1 q => ?_) (fun E w1 q => ?_)
  · obtain ⟨e, rfl⟩ := GXo_V q
    exact J_ireturn dL_setGoal_6 rfl rfl (HV_ok q e rfl)
  · obtain ⟨e, rfl⟩ := GXo_E q
    rcases lc_setGoal G y z with hc | hc | hc | hc | hc
    · exact absurd hc e
    · have q2 := q
      rw [hc]
      refine JX_catch (i := 3) (pre := []) (x := ⟨0, 6, 7, 31⟩) (suf := [⟨0, 6, 11, 20⟩, ⟨0, 6, 15, 41⟩, ⟨0, 6, 19, 36⟩]) rfl (fun y hy => by cases hy) rfl (by decide) clL_31 (OL_in (T2 (List.mem_of_getElem? (i := 142) rfl)) rfl) (Or.inl ⟨dL_setGoal_7, rfl, 1, rfl, ?_⟩) (by decide) rfl
      refine J_bipush (v := (-77)) dL_setGoal_8 (by decide) ?_
      exact J_ireturn dL_setGoal_10 rfl rfl (HV_no q2 hc (by decide) rfl)
    · have q2 := q
      rw [hc]
      refine JX_catch (i := 3) (pre := [⟨0, 6, 7, 31⟩]) (x := ⟨0, 6, 11, 20⟩) (suf := [⟨0, 6, 15, 41⟩, ⟨0, 6, 19, 36⟩]) rfl (List.forall_mem_cons.mpr ⟨Or.inr ⟨by decide, _, clL_31, List.mem_of_getElem? (i := 12) rfl⟩, fun y hy => by cases hy⟩) rfl (by decide) clL_20 (OL_in (T3 (List.mem_of_getElem? (i := 33) rfl)) rfl) (Or.inl ⟨dL_setGoal_11, rfl, 1, rfl, ?_⟩) (by decide) rfl
      refine J_bipush (v := (-78)) dL_setGoal_12 (by decide) ?_
      exact J_ireturn dL_setGoal_14 rfl rfl (HV_no q2 hc (by decide) rfl)
    · have q2 := q
      rw [hc]
      refine JX_catch (i := 3) (pre := [⟨0, 6, 7, 31⟩, ⟨0, 6, 11, 20⟩]) (x := ⟨0, 6, 15, 41⟩) (suf := [⟨0, 6, 19, 36⟩]) rfl (List.forall_mem_cons.mpr ⟨Or.inr ⟨by decide, _, clL_31, List.mem_of_getElem? (i := 14) rfl⟩, List.forall_mem_cons.mpr ⟨Or.inr ⟨by decide, _, clL_20, List.mem_of_getElem? (i := 2) rfl⟩, fun y hy => by cases hy⟩⟩) rfl (by decide) clL_41 (OL_in (T3 (List.mem_of_getElem? (i := 65) rfl)) rfl) (Or.inl ⟨dL_setGoal_15, rfl, 1, rfl, ?_⟩) (by decide) rfl
      refine J_bipush (v := (-76)) dL_setGoal_16 (by decide) ?_
      exact J_ireturn dL_setGoal_18 rfl rfl (HV_no q2 hc (by decide) rfl)
    · have q2 := q
      rw [hc]
      refine JX_catch (i := 3) (pre := [⟨0, 6, 7, 31⟩, ⟨0, 6, 11, 20⟩, ⟨0, 6, 15, 41⟩]) (x := ⟨0, 6, 19, 36⟩) (suf := []) rfl (List.forall_mem_cons.mpr ⟨Or.inr ⟨by decide, _, clL_31, List.mem_of_getElem? (i := 15) rfl⟩, List.forall_mem_cons.mpr ⟨Or.inr ⟨by decide, _, clL_20, List.mem_of_getElem? (i := 3) rfl⟩, List.forall_mem_cons.mpr ⟨Or.inr ⟨by decide, _, clL_41, List.mem_of_getElem? (i := 26) rfl⟩, fun y hy => by cases hy⟩⟩⟩) rfl (by decide) clL_36 (OL_in (T2 (List.mem_of_getElem? (i := 158) rfl)) rfl) (Or.inl ⟨dL_setGoal_19, rfl, 1, rfl, ?_⟩) (by decide) rfl
      refine J_bipush (v := (-75)) dL_setGoal_20 (by decide) ?_
      exact J_ireturn dL_setGoal_22 rfl rfl (HV_no q2 hc (by decide) rfl)

theorem c_L_clearGoal {w : Wd} {x : Nat} {G : Gme} (hX : RepX w x G) (y : Int32) : MC 8 mL_clearGoal 1 6 [.ref x, .int y] w (HV w x (gMut G (oDrop (gS G) y)).2.2 (lvR (gMut G (oDrop (gS G) y)))) := by
  refine MC_ofH pnL rfl (fun v hv => by simp only [List.mem_cons, List.not_mem_nil, or_false] at hv; rcases hv with rfl | rfl <;> rfl) (Nat.le_of_ble_eq_true rfl) (fun E w h => RP_no E w h) ?_
  show J 8 mL_clearGoal 0 [some (.ref x), some (.int y), none] [] w 1 6 _
  refine J_aload_n dL_clearGoal_0 rfl rfl ?_
  refine J_iload_n dL_clearGoal_1 rfl rfl ?_
  refine J_callV (mi := mL_clearGoal) (pc := 2) (kb := 0) (sb := 0) dL_clearGoal_2 YX8_clearGoal kL_91 hX.rc (c_X8_clearGoal hX y) rfl rfl (Nat.le_of_ble_eq_true rfl) (by decide) (fun v w1 q => ?_) (fun E w1 q => ?_)
  · obtain ⟨e, rfl⟩ := GXo_V q
    exact J_ireturn dL_clearGoal_5 rfl rfl (HV_ok q e rfl)
  · obtain ⟨e, rfl⟩ := GXo_E q
    rcases lc_clearGoal G y with hc | hc | hc
    · exact absurd hc e
    · have q2 := q
      rw [hc]
      refine JX_catch (i := 2) (pre := []) (x := ⟨0, 5, 6, 31⟩) (suf := [⟨0, 5, 10, 36⟩]) rfl (fun y hy => by cases hy) rfl (by decide) clL_31 (OL_in (T2 (List.mem_of_getElem? (i := 142) rfl)) rfl) (Or.inl ⟨dL_clearGoal_6, rfl, 1, rfl, ?_⟩) (by decide) rfl
      refine J_bipush (v := (-77)) dL_clearGoal_7 (by decide) ?_
      exact J_ireturn dL_clearGoal_9 rfl rfl (HV_no q2 hc (by decide) rfl)
    · have q2 := q
      rw [hc]
      refine JX_catch (i := 2) (pre := [⟨0, 5, 6, 31⟩]) (x := ⟨0, 5, 10, 36⟩) (suf := []) rfl (List.forall_mem_cons.mpr ⟨Or.inr ⟨by decide, _, clL_31, List.mem_of_getElem? (i := 15) rfl⟩, fun y hy => by cases hy⟩) rfl (by decide) clL_36 (OL_in (T2 (List.mem_of_getElem? (i := 158) rfl)) rfl) (Or.inl ⟨dL_clearGoal_10, rfl, 1, rfl, ?_⟩) (by decide) rfl
      refine J_bipush (v := (-75)) dL_clearGoal_11 (by decide) ?_
      exact J_ireturn dL_clearGoal_13 rfl rfl (HV_no q2 hc (by decide) rfl)

theorem c_L_reserve {w : Wd} {x : Nat} {G : Gme} (hX : RepX w x G) (y z : Int32) : MC 8 mL_reserve 1 6 [.ref x, .int y, .int z] w (HV w x (gMut G (oHold (gS G) y z)).2.2 (lvR (gMut G (oHold (gS G) y z)))) := by
  refine MC_ofH pnL rfl (fun v hv => by simp only [List.mem_cons, List.not_mem_nil, or_false] at hv; rcases hv with rfl | rfl | rfl <;> rfl) (Nat.le_of_ble_eq_true rfl) (fun E w h => RP_no E w h) ?_
  show J 8 mL_reserve 0 [some (.ref x), some (.int y), some (.int z), none] [] w 1 6 _
  refine J_aload_n dL_reserve_0 rfl rfl ?_
  refine J_iload_n dL_reserve_1 rfl rfl ?_
  refine J_iload_n dL_reserve_2 rfl rfl ?_
  refine J_callV (mi := mL_reserve) (pc := 3) (kb := 0) (sb := 0) dL_reserve_3 YX8_reserve kL_94 hX.rc (c_X8_reserve hX y z) rfl rfl (Nat.le_of_ble_eq_true rfl) (by decide) (fun v w1 q => ?_) (fun E w1 q => ?_)
  · obtain ⟨e, rfl⟩ := GXo_V q
    exact J_ireturn dL_reserve_6 rfl rfl (HV_ok q e rfl)
  · obtain ⟨e, rfl⟩ := GXo_E q
    rcases lc_reserve G y z with hc | hc | hc | hc | hc
    · exact absurd hc e
    · have q2 := q
      rw [hc]
      refine JX_catch (i := 3) (pre := []) (x := ⟨0, 6, 7, 31⟩) (suf := [⟨0, 6, 11, 20⟩, ⟨0, 6, 15, 22⟩, ⟨0, 6, 19, 41⟩]) rfl (fun y hy => by cases hy) rfl (by decide) clL_31 (OL_in (T2 (List.mem_of_getElem? (i := 142) rfl)) rfl) (Or.inl ⟨dL_reserve_7, rfl, 1, rfl, ?_⟩) (by decide) rfl
      refine J_bipush (v := (-77)) dL_reserve_8 (by decide) ?_
      exact J_ireturn dL_reserve_10 rfl rfl (HV_no q2 hc (by decide) rfl)
    · have q2 := q
      rw [hc]
      refine JX_catch (i := 3) (pre := [⟨0, 6, 7, 31⟩]) (x := ⟨0, 6, 11, 20⟩) (suf := [⟨0, 6, 15, 22⟩, ⟨0, 6, 19, 41⟩]) rfl (List.forall_mem_cons.mpr ⟨Or.inr ⟨by decide, _, clL_31, List.mem_of_getElem? (i := 12) rfl⟩, fun y hy => by cases hy⟩) rfl (by decide) clL_20 (OL_in (T3 (List.mem_of_getElem? (i := 33) rfl)) rfl) (Or.inl ⟨dL_reserve_11, rfl, 1, rfl, ?_⟩) (by decide) rfl
      refine J_bipush (v := (-78)) dL_reserve_12 (by decide) ?_
      exact J_ireturn dL_reserve_14 rfl rfl (HV_no q2 hc (by decide) rfl)
    · have q2 := q
      rw [hc]
      refine JX_catch (i := 3) (pre := [⟨0, 6, 7, 31⟩, ⟨0, 6, 11, 20⟩]) (x := ⟨0, 6, 15, 22⟩) (suf := [⟨0, 6, 19, 41⟩]) rfl (List.forall_mem_cons.mpr ⟨Or.inr ⟨by decide, _, clL_31, List.mem_of_getElem? (i := 13) rfl⟩, List.forall_mem_cons.mpr ⟨Or.inr ⟨by decide, _, clL_20, List.mem_of_getElem? (i := 1) rfl⟩, fun y hy => by cases hy⟩⟩) rfl (by decide) clL_22 (OL_in (T3 (List.mem_of_getElem? (i := 49) rfl)) rfl) (Or.inl ⟨dL_reserve_15, rfl, 1, rfl, ?_⟩) (by decide) rfl
      refine J_bipush (v := (-79)) dL_reserve_16 (by decide) ?_
      exact J_ireturn dL_reserve_18 rfl rfl (HV_no q2 hc (by decide) rfl)
    · have q2 := q
      rw [hc]
      refine JX_catch (i := 3) (pre := [⟨0, 6, 7, 31⟩, ⟨0, 6, 11, 20⟩, ⟨0, 6, 15, 22⟩]) (x := ⟨0, 6, 19, 41⟩) (suf := []) rfl (List.forall_mem_cons.mpr ⟨Or.inr ⟨by decide, _, clL_31, List.mem_of_getElem? (i := 14) rfl⟩, List.forall_mem_cons.mpr ⟨Or.inr ⟨by decide, _, clL_20, List.mem_of_getElem? (i := 2) rfl⟩, List.forall_mem_cons.mpr ⟨Or.inr ⟨by decide, _, clL_22, List.mem_of_getElem? (i := 8) rfl⟩, fun y hy => by cases hy⟩⟩⟩) rfl (by decide) clL_41 (OL_in (T3 (List.mem_of_getElem? (i := 65) rfl)) rfl) (Or.inl ⟨dL_reserve_19, rfl, 1, rfl, ?_⟩) (by decide) rfl
      refine J_bipush (v := (-76)) dL_reserve_20 (by decide) ?_
      exact J_ireturn dL_reserve_22 rfl rfl (HV_no q2 hc (by decide) rfl)

theorem c_L_cancelReservation {w : Wd} {x : Nat} {G : Gme} (hX : RepX w x G) (y : Int32) : MC 8 mL_cancelReservation 1 6 [.ref x, .int y] w (HV w x (gMut G (oFree (gS G) y)).2.2 (lvR (gMut G (oFree (gS G) y)))) := by
  refine MC_ofH pnL rfl (fun v hv => by simp only [List.mem_cons, List.not_mem_nil, or_false] at hv; rcases hv with rfl | rfl <;> rfl) (Nat.le_of_ble_eq_true rfl) (fun E w h => RP_no E w h) ?_
  show J 8 mL_cancelReservation 0 [some (.ref x), some (.int y), none] [] w 1 6 _
  refine J_aload_n dL_cancelReservation_0 rfl rfl ?_
  refine J_iload_n dL_cancelReservation_1 rfl rfl ?_
  refine J_callV (mi := mL_cancelReservation) (pc := 2) (kb := 0) (sb := 0) dL_cancelReservation_2 YX8_cancelReservation kL_97 hX.rc (c_X8_cancelReservation hX y) rfl rfl (Nat.le_of_ble_eq_true rfl) (by decide) (fun v w1 q => ?_) (fun E w1 q => ?_)
  · obtain ⟨e, rfl⟩ := GXo_V q
    exact J_ireturn dL_cancelReservation_5 rfl rfl (HV_ok q e rfl)
  · obtain ⟨e, rfl⟩ := GXo_E q
    rcases lc_cancelReservation G y with hc | hc | hc
    · exact absurd hc e
    · have q2 := q
      rw [hc]
      refine JX_catch (i := 2) (pre := []) (x := ⟨0, 5, 6, 31⟩) (suf := [⟨0, 5, 10, 36⟩]) rfl (fun y hy => by cases hy) rfl (by decide) clL_31 (OL_in (T2 (List.mem_of_getElem? (i := 142) rfl)) rfl) (Or.inl ⟨dL_cancelReservation_6, rfl, 1, rfl, ?_⟩) (by decide) rfl
      refine J_bipush (v := (-77)) dL_cancelReservation_7 (by decide) ?_
      exact J_ireturn dL_cancelReservation_9 rfl rfl (HV_no q2 hc (by decide) rfl)
    · have q2 := q
      rw [hc]
      refine JX_catch (i := 2) (pre := [⟨0, 5, 6, 31⟩]) (x := ⟨0, 5, 10, 36⟩) (suf := []) rfl (List.forall_mem_cons.mpr ⟨Or.inr ⟨by decide, _, clL_31, List.mem_of_getElem? (i := 15) rfl⟩, fun y hy => by cases hy⟩) rfl (by decide) clL_36 (OL_in (T2 (List.mem_of_getElem? (i := 158) rfl)) rfl) (Or.inl ⟨dL_cancelReservation_10, rfl, 1, rfl, ?_⟩) (by decide) rfl
      refine J_bipush (v := (-75)) dL_cancelReservation_11 (by decide) ?_
      exact J_ireturn dL_cancelReservation_13 rfl rfl (HV_no q2 hc (by decide) rfl)

theorem c_L_rescue {w : Wd} {x : Nat} {G : Gme} (hX : RepX w x G) (y : Int32) : MC 8 mL_rescue 1 6 [.ref x, .int y] w (HV w x (gMut G (oResc (gS G) y)).2.2 (lvR (gMut G (oResc (gS G) y)))) := by
  refine MC_ofH pnL rfl (fun v hv => by simp only [List.mem_cons, List.not_mem_nil, or_false] at hv; rcases hv with rfl | rfl <;> rfl) (Nat.le_of_ble_eq_true rfl) (fun E w h => RP_no E w h) ?_
  show J 8 mL_rescue 0 [some (.ref x), some (.int y), none] [] w 1 6 _
  refine J_aload_n dL_rescue_0 rfl rfl ?_
  refine J_iload_n dL_rescue_1 rfl rfl ?_
  refine J_callV (mi := mL_rescue) (pc := 2) (kb := 0) (sb := 0) dL_rescue_2 YX8_rescue kL_100 hX.rc (c_X8_rescue hX y) rfl rfl (Nat.le_of_ble_eq_true rfl) (by decide) (fun v w1 q => ?_) (fun E w1 q => ?_)
  · obtain ⟨e, rfl⟩ := GXo_V q
    exact J_ireturn dL_rescue_5 rfl rfl (HV_ok q e rfl)
  · obtain ⟨e, rfl⟩ := GXo_E q
    rcases lc_rescue G y with hc | hc | hc
    · exact absurd hc e
    · have q2 := q
      rw [hc]
      refine JX_catch (i := 2) (pre := []) (x := ⟨0, 5, 6, 31⟩) (suf := [⟨0, 5, 10, 22⟩]) rfl (fun y hy => by cases hy) rfl (by decide) clL_31 (OL_in (T2 (List.mem_of_getElem? (i := 142) rfl)) rfl) (Or.inl ⟨dL_rescue_6, rfl, 1, rfl, ?_⟩) (by decide) rfl
      refine J_bipush (v := (-77)) dL_rescue_7 (by decide) ?_
      exact J_ireturn dL_rescue_9 rfl rfl (HV_no q2 hc (by decide) rfl)
    · have q2 := q
      rw [hc]
      refine JX_catch (i := 2) (pre := [⟨0, 5, 6, 31⟩]) (x := ⟨0, 5, 10, 22⟩) (suf := []) rfl (List.forall_mem_cons.mpr ⟨Or.inr ⟨by decide, _, clL_31, List.mem_of_getElem? (i := 13) rfl⟩, fun y hy => by cases hy⟩) rfl (by decide) clL_22 (OL_in (T3 (List.mem_of_getElem? (i := 49) rfl)) rfl) (Or.inl ⟨dL_rescue_10, rfl, 1, rfl, ?_⟩) (by decide) rfl
      refine J_bipush (v := (-79)) dL_rescue_11 (by decide) ?_
      exact J_ireturn dL_rescue_13 rfl rfl (HV_no q2 hc (by decide) rfl)

theorem c_L_passTicks {w : Wd} {x : Nat} {G : Gme} (hX : RepX w x G) (y : Int32) : MC 8 mL_passTicks 1 6 [.ref x, .int y] w (HV w x (gMut G (oTick (gS G) y)).2.2 (lvR (gMut G (oTick (gS G) y)))) := by
  refine MC_ofH pnL rfl (fun v hv => by simp only [List.mem_cons, List.not_mem_nil, or_false] at hv; rcases hv with rfl | rfl <;> rfl) (Nat.le_of_ble_eq_true rfl) (fun E w h => RP_no E w h) ?_
  show J 8 mL_passTicks 0 [some (.ref x), some (.int y), none] [] w 1 6 _
  refine J_aload_n dL_passTicks_0 rfl rfl ?_
  refine J_iload_n dL_passTicks_1 rfl rfl ?_
  refine J_callV (mi := mL_passTicks) (pc := 2) (kb := 0) (sb := 0) dL_passTicks_2 YX8_passTicks kL_127 hX.rc (c_X8_passTicks hX y) rfl rfl (Nat.le_of_ble_eq_true rfl) (by decide) (fun v w1 q => ?_) (fun E w1 q => ?_)
  · obtain ⟨e, rfl⟩ := GXo_V q
    exact J_ireturn dL_passTicks_5 rfl rfl (HV_ok q e rfl)
  · obtain ⟨e, rfl⟩ := GXo_E q
    rcases lc_passTicks G y with hc | hc
    · exact absurd hc e
    · have q2 := q
      rw [hc]
      refine JX_catch (i := 2) (pre := []) (x := ⟨0, 5, 6, 20⟩) (suf := []) rfl (fun y hy => by cases hy) rfl (by decide) clL_20 (OL_in (T3 (List.mem_of_getElem? (i := 33) rfl)) rfl) (Or.inl ⟨dL_passTicks_6, rfl, 1, rfl, ?_⟩) (by decide) rfl
      refine J_bipush (v := (-78)) dL_passTicks_7 (by decide) ?_
      exact J_ireturn dL_passTicks_9 rfl rfl (HV_no q2 hc (by decide) rfl)

theorem c_L_length {w : Wd} {x : Nat} {G : Gme} (hX : RepX w x G) (y : Int32) : MC 8 mL_length 1 6 [.ref x, .int y] w (HV w x (gQ G (onI (sNb (gS G)) y (fun i => (0, nI (sLen (gS G) i))))).2.2 (lvR (gQ G (onI (sNb (gS G)) y (fun i => (0, nI (sLen (gS G) i))))))) := by
  refine MC_ofH pnL rfl (fun v hv => by simp only [List.mem_cons, List.not_mem_nil, or_false] at hv; rcases hv with rfl | rfl <;> rfl) (Nat.le_of_ble_eq_true rfl) (fun E w h => RP_no E w h) ?_
  show J 8 mL_length 0 [some (.ref x), some (.int y), none] [] w 1 6 _
  refine J_aload_n dL_length_0 rfl rfl ?_
  refine J_iload_n dL_length_1 rfl rfl ?_
  refine J_callV (mi := mL_length) (pc := 2) (kb := 0) (sb := 0) dL_length_2 YX8_length kL_46 hX.rc (c_X8_length hX y) rfl rfl (Nat.le_of_ble_eq_true rfl) (by decide) (fun v w1 q => ?_) (fun E w1 q => ?_)
  · obtain ⟨e, rfl⟩ := GXo_V q
    exact J_ireturn dL_length_5 rfl rfl (HV_ok q e rfl)
  · obtain ⟨e, rfl⟩ := GXo_E q
    rcases lc_length G y with hc | hc
    · exact absurd hc e
    · have q2 := q
      rw [hc]
      refine JX_catch (i := 2) (pre := []) (x := ⟨0, 5, 6, 31⟩) (suf := []) rfl (fun y hy => by cases hy) rfl (by decide) clL_31 (OL_in (T2 (List.mem_of_getElem? (i := 142) rfl)) rfl) (Or.inl ⟨dL_length_6, rfl, 1, rfl, ?_⟩) (by decide) rfl
      refine J_bipush (v := (-77)) dL_length_7 (by decide) ?_
      exact J_ireturn dL_length_9 rfl rfl (HV_no q2 hc (by decide) rfl)

end JHELP

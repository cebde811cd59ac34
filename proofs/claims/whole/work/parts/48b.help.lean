/-! THE LAW: its helpers -/
section JHELP
theorem c_L_addBlock {w : Wd} {x o : Nat} {G : Gme} {g0 : Nat → Int64} (hX : RepX w x G) (hO : w.1 o = .inl (2, 1, .inr (.inl g0))) (ho : o < x ∨ x + 126 ≤ o) (y : Int32) : MC 8 mL_addBlock 1 6 [.ref x, .int y, .ref o] w (LPo w x o [2, 3] (gMut G (oAdd (gS G) y false))) := by
  refine MC_ofH pnL rfl (fun v hv => by simp only [List.mem_cons, List.not_mem_nil, or_false] at hv; rcases hv with rfl | rfl | rfl <;> rfl) (Nat.le_of_ble_eq_true rfl) (fun E w h => RP_no E w h) ?_
  show J 8 mL_addBlock 0 [some (.ref x), some (.int y), some (.ref o), none] [] w 1 6 _
  refine J_aload_n dL_addBlock_0 rfl rfl ?_
  refine J_iconst (v := nI 0) dL_addBlock_1 (by decide) ?_
  refine J_aload_n dL_addBlock_2 rfl rfl ?_
  refine J_iload_n dL_addBlock_3 rfl rfl ?_
  refine J_callV (mi := mL_addBlock) (pc := 4) (kb := 0) (sb := 0) dL_addBlock_4 YX8_addBlock kL_7 hX.rc (c_X8_addBlock hX y) rfl rfl (Nat.le_of_ble_eq_true rfl) (by decide) (fun v w1 q => ?_) (fun E w1 q => ?_)
  · obtain ⟨e, rfl⟩ := GXo_V q
    have hO1 := (q.1.1 _ ho).trans hO
    refine J_i2l dL_addBlock_7 rfl ?_
    refine K_last dL_addBlock_8 hO1 (by decide) (by decide) (fun w2 u => ?_)
    refine J_goto (tgt := 18) dL_addBlock_9 (by decide) ?_
    refine J_iconst (v := nI 0) dL_addBlock_18 (by decide) ?_
    exact J_ireturn dL_addBlock_19 rfl rfl (LPo_ok q e ho u rfl)
  · obtain ⟨e, rfl⟩ := GXo_E q
    rcases lc_addBlock G y with hc | hc | hc
    · exact absurd hc e
    · have q2 := q
      rw [hc]
      refine JX_catch (i := 3) (pre := []) (x := ⟨0, 9, 12, 13⟩) (suf := [⟨0, 9, 15, 15⟩]) rfl (fun y hy => by cases hy) rfl (by decide) clL_13 (OL_in (T3 (List.mem_of_getElem? (i := 16) rfl)) rfl) (Or.inl ⟨dL_addBlock_12, rfl, 1, rfl, ?_⟩) (by decide) rfl
      refine J_iconst (v := nI 1) dL_addBlock_13 (by decide) ?_
      exact J_ireturn dL_addBlock_14 rfl rfl (LPo_no q2 hc (by decide) hO ho rfl)
    · have q2 := q
      rw [hc]
      refine JX_catch (i := 3) (pre := [⟨0, 9, 12, 13⟩]) (x := ⟨0, 9, 15, 15⟩) (suf := []) rfl (List.forall_mem_cons.mpr ⟨Or.inr ⟨by decide, _, clL_13, List.mem_of_getElem? (i := 1) rfl⟩, fun y hy => by cases hy⟩) rfl (by decide) clL_15 (OL_in (T3 (List.mem_of_getElem? (i := 32) rfl)) rfl) (Or.inl ⟨dL_addBlock_15, rfl, 1, rfl, ?_⟩) (by decide) rfl
      refine J_iconst (v := nI 2) dL_addBlock_16 (by decide) ?_
      exact J_ireturn dL_addBlock_17 rfl rfl (LPo_no q2 hc (by decide) hO ho rfl)

theorem c_L_addCushion {w : Wd} {x o : Nat} {G : Gme} {g0 : Nat → Int64} (hX : RepX w x G) (hO : w.1 o = .inl (2, 1, .inr (.inl g0))) (ho : o < x ∨ x + 126 ≤ o) (y : Int32) : MC 8 mL_addCushion 1 6 [.ref x, .int y, .ref o] w (LPo w x o [2, 3] (gMut G (oAdd (gS G) y true))) := by
  refine MC_ofH pnL rfl (fun v hv => by simp only [List.mem_cons, List.not_mem_nil, or_false] at hv; rcases hv with rfl | rfl | rfl <;> rfl) (Nat.le_of_ble_eq_true rfl) (fun E w h => RP_no E w h) ?_
  show J 8 mL_addCushion 0 [some (.ref x), some (.int y), some (.ref o), none] [] w 1 6 _
  refine J_aload_n dL_addCushion_0 rfl rfl ?_
  refine J_iconst (v := nI 0) dL_addCushion_1 (by decide) ?_
  refine J_aload_n dL_addCushion_2 rfl rfl ?_
  refine J_iload_n dL_addCushion_3 rfl rfl ?_
  refine J_callV (mi := mL_addCushion) (pc := 4) (kb := 0) (sb := 0) dL_addCushion_4 YX8_addCushion kL_17 hX.rc (c_X8_addCushion hX y) rfl rfl (Nat.le_of_ble_eq_true rfl) (by decide) (fun v w1 q => ?_) (fun E w1 q => ?_)
  · obtain ⟨e, rfl⟩ := GXo_V q
    have hO1 := (q.1.1 _ ho).trans hO
    refine J_i2l dL_addCushion_7 rfl ?_
    refine K_last dL_addCushion_8 hO1 (by decide) (by decide) (fun w2 u => ?_)
    refine J_goto (tgt := 18) dL_addCushion_9 (by decide) ?_
    refine J_iconst (v := nI 0) dL_addCushion_18 (by decide) ?_
    exact J_ireturn dL_addCushion_19 rfl rfl (LPo_ok q e ho u rfl)
  · obtain ⟨e, rfl⟩ := GXo_E q
    rcases lc_addCushion G y with hc | hc | hc
    · exact absurd hc e
    · have q2 := q
      rw [hc]
      refine JX_catch (i := 3) (pre := []) (x := ⟨0, 9, 12, 13⟩) (suf := [⟨0, 9, 15, 15⟩]) rfl (fun y hy => by cases hy) rfl (by decide) clL_13 (OL_in (T3 (List.mem_of_getElem? (i := 16) rfl)) rfl) (Or.inl ⟨dL_addCushion_12, rfl, 1, rfl, ?_⟩) (by decide) rfl
      refine J_iconst (v := nI 1) dL_addCushion_13 (by decide) ?_
      exact J_ireturn dL_addCushion_14 rfl rfl (LPo_no q2 hc (by decide) hO ho rfl)
    · have q2 := q
      rw [hc]
      refine JX_catch (i := 3) (pre := [⟨0, 9, 12, 13⟩]) (x := ⟨0, 9, 15, 15⟩) (suf := []) rfl (List.forall_mem_cons.mpr ⟨Or.inr ⟨by decide, _, clL_13, List.mem_of_getElem? (i := 1) rfl⟩, fun y hy => by cases hy⟩) rfl (by decide) clL_15 (OL_in (T3 (List.mem_of_getElem? (i := 32) rfl)) rfl) (Or.inl ⟨dL_addCushion_15, rfl, 1, rfl, ?_⟩) (by decide) rfl
      refine J_iconst (v := nI 2) dL_addCushion_16 (by decide) ?_
      exact J_ireturn dL_addCushion_17 rfl rfl (LPo_no q2 hc (by decide) hO ho rfl)

theorem c_L_link {w : Wd} {x o : Nat} {G : Gme} {g0 : Nat → Int64} (hX : RepX w x G) (hO : w.1 o = .inl (2, 1, .inr (.inl g0))) (ho : o < x ∨ x + 126 ≤ o) (y z : Int32) : MC 8 mL_link 1 6 [.ref x, .int y, .int z, .ref o] w (LPo w x o [1, 2, 3] (gMut G (oJoin (gS G) y z))) := by
  refine MC_ofH pnL rfl (fun v hv => by simp only [List.mem_cons, List.not_mem_nil, or_false] at hv; rcases hv with rfl | rfl | rfl | rfl <;> rfl) (Nat.le_of_ble_eq_true rfl) (fun E w h => RP_no E w h) ?_
  show J 8 mL_link 0 [some (.ref x), some (.int y), some (.int z), some (.ref o), none] [] w 1 6 _
  refine J_aload_n dL_link_0 rfl rfl ?_
  refine J_iconst (v := nI 0) dL_link_1 (by decide) ?_
  refine J_aload_n dL_link_2 rfl rfl ?_
  refine J_iload_n dL_link_3 rfl rfl ?_
  refine J_iload_n dL_link_4 rfl rfl ?_
  refine J_callV (mi := mL_link) (pc := 5) (kb := 0) (sb := 0) dL_link_5 YX8_link kL_20 hX.rc (c_X8_link hX y z) rfl rfl (Nat.le_of_ble_eq_true rfl) (by decide) (fun v w1 q => ?_) (fun E w1 q => ?_)
  · obtain ⟨e, rfl⟩ := GXo_V q
    have hO1 := (q.1.1 _ ho).trans hO
    refine J_i2l dL_link_8 rfl ?_
    refine K_last dL_link_9 hO1 (by decide) (by decide) (fun w2 u => ?_)
    refine J_goto (tgt := 25) dL_link_10 (by decide) ?_
    refine J_iconst (v := nI 0) dL_link_25 (by decide) ?_
    exact J_ireturn dL_link_26 rfl rfl (LPo_ok q e ho u rfl)
  · obtain ⟨e, rfl⟩ := GXo_E q
    rcases lc_link G y z with hc | hc | hc | hc
    · exact absurd hc e
    · have q2 := q
      rw [hc]
      refine JX_catch (n := 0) (i := 4) (pre := []) (x := ⟨0, 10, 13, 24⟩) (suf := [⟨0, 10, 17, 13⟩, ⟨0, 10, 21, 15⟩]) rfl (fun y hy => by cases hy) rfl (by decide) clL_24 (OL_in (T2 (List.mem_of_getElem? (i := 184) rfl)) rfl) (Or.inr ⟨dL_link_13, ?_⟩) (by decide) rfl
      refine J_iconst (v := nI 1) dL_link_15 (by decide) ?_
      exact J_ireturn dL_link_16 rfl rfl (LPo_no q2 hc (by decide) hO ho rfl)
    · have q2 := q
      rw [hc]
      refine JX_catch (n := 0) (i := 4) (pre := [⟨0, 10, 13, 24⟩]) (x := ⟨0, 10, 17, 13⟩) (suf := [⟨0, 10, 21, 15⟩]) rfl (List.forall_mem_cons.mpr ⟨Or.inr ⟨by decide, _, clL_24, List.mem_of_getElem? (i := 12) rfl⟩, fun y hy => by cases hy⟩) rfl (by decide) clL_13 (OL_in (T3 (List.mem_of_getElem? (i := 16) rfl)) rfl) (Or.inr ⟨dL_link_17, ?_⟩) (by decide) rfl
      refine J_iconst (v := nI 2) dL_link_19 (by decide) ?_
      exact J_ireturn dL_link_20 rfl rfl (LPo_no q2 hc (by decide) hO ho rfl)
    · have q2 := q
      rw [hc]
      refine JX_catch (n := 0) (i := 4) (pre := [⟨0, 10, 13, 24⟩, ⟨0, 10, 17, 13⟩]) (x := ⟨0, 10, 21, 15⟩) (suf := []) rfl (List.forall_mem_cons.mpr ⟨Or.inr ⟨by decide, _, clL_24, List.mem_of_getElem? (i := 13) rfl⟩, List.forall_mem_cons.mpr ⟨Or.inr ⟨by decide, _, clL_13, List.mem_of_getElem? (i := 1) rfl⟩, fun y hy => by cases hy⟩⟩) rfl (by decide) clL_15 (OL_in (T3 (List.mem_of_getElem? (i := 32) rfl)) rfl) (Or.inr ⟨dL_link_21, ?_⟩) (by decide) rfl
      refine J_iconst (v := nI 3) dL_link_23 (by decide) ?_
      exact J_ireturn dL_link_24 rfl rfl (LPo_no q2 hc (by decide) hO ho rfl)

theorem c_L_unlink {w : Wd} {x o : Nat} {G : Gme} {g0 : Nat → Int64} (hX : RepX w x G) (hO : w.1 o = .inl (2, 1, .inr (.inl g0))) (ho : o < x ∨ x + 126 ≤ o) (y z : Int32) : MC 8 mL_unlink 1 6 [.ref x, .int y, .int z, .ref o] w (LPo w x o [1, 5] (gMut G (oPart (gS G) y z))) := by
  refine MC_ofH pnL rfl (fun v hv => by simp only [List.mem_cons, List.not_mem_nil, or_false] at hv; rcases hv with rfl | rfl | rfl | rfl <;> rfl) (Nat.le_of_ble_eq_true rfl) (fun E w h => RP_no E w h) ?_
  show J 8 mL_unlink 0 [some (.ref x), some (.int y), some (.int z), some (.ref o), none] [] w 1 6 _
  refine J_aload_n dL_unlink_0 rfl rfl ?_
  refine J_iconst (v := nI 0) dL_unlink_1 (by decide) ?_
  refine J_aload_n dL_unlink_2 rfl rfl ?_
  refine J_iload_n dL_unlink_3 rfl rfl ?_
  refine J_iload_n dL_unlink_4 rfl rfl ?_
  refine J_callV (mi := mL_unlink) (pc := 5) (kb := 0) (sb := 0) dL_unlink_5 YX8_unlink kL_26 hX.rc (c_X8_unlink hX y z) rfl rfl (Nat.le_of_ble_eq_true rfl) (by decide) (fun v w1 q => ?_) (fun E w1 q => ?_)
  · obtain ⟨e, rfl⟩ := GXo_V q
    have hO1 := (q.1.1 _ ho).trans hO
    refine J_i2l dL_unlink_8 rfl ?_
    refine K_last dL_unlink_9 hO1 (by decide) (by decide) (fun w2 u => ?_)
    refine J_goto (tgt := 21) dL_unlink_10 (by decide) ?_
    refine J_iconst (v := nI 0) dL_unlink_21 (by decide) ?_
    exact J_ireturn dL_unlink_22 rfl rfl (LPo_ok q e ho u rfl)
  · obtain ⟨e, rfl⟩ := GXo_E q
    rcases lc_unlink G y z with hc | hc | hc
    · exact absurd hc e
    · have q2 := q
      rw [hc]
      refine JX_catch (n := 0) (i := 4) (pre := []) (x := ⟨0, 10, 13, 24⟩) (suf := [⟨0, 10, 17, 29⟩]) rfl (fun y hy => by cases hy) rfl (by decide) clL_24 (OL_in (T2 (List.mem_of_getElem? (i := 184) rfl)) rfl) (Or.inr ⟨dL_unlink_13, ?_⟩) (by decide) rfl
      refine J_iconst (v := nI 1) dL_unlink_15 (by decide) ?_
      exact J_ireturn dL_unlink_16 rfl rfl (LPo_no q2 hc (by decide) hO ho rfl)
    · have q2 := q
      rw [hc]
      refine JX_catch (n := 0) (i := 4) (pre := [⟨0, 10, 13, 24⟩]) (x := ⟨0, 10, 17, 29⟩) (suf := []) rfl (List.forall_mem_cons.mpr ⟨Or.inr ⟨by decide, _, clL_24, List.mem_of_getElem? (i := 15) rfl⟩, fun y hy => by cases hy⟩) rfl (by decide) clL_29 (OL_in (T3 (List.mem_of_getElem? (i := 64) rfl)) rfl) (Or.inr ⟨dL_unlink_17, ?_⟩) (by decide) rfl
      refine J_iconst (v := nI 2) dL_unlink_19 (by decide) ?_
      exact J_ireturn dL_unlink_20 rfl rfl (LPo_no q2 hc (by decide) hO ho rfl)

theorem c_L_putCat {w : Wd} {x o : Nat} {G : Gme} {g0 : Nat → Int64} (hX : RepX w x G) (hO : w.1 o = .inl (2, 1, .inr (.inl g0))) (ho : o < x ∨ x + 126 ≤ o) (y : Int32) : MC 8 mL_putCat 1 6 [.ref x, .int y, .ref o] w (LPo w x o [1, 3, 4] (gMut G (oCat (gS G) y))) := by
  refine MC_ofH pnL rfl (fun v hv => by simp only [List.mem_cons, List.not_mem_nil, or_false] at hv; rcases hv with rfl | rfl | rfl <;> rfl) (Nat.le_of_ble_eq_true rfl) (fun E w h => RP_no E w h) ?_
  show J 8 mL_putCat 0 [some (.ref x), some (.int y), some (.ref o), none] [] w 1 6 _
  refine J_aload_n dL_putCat_0 rfl rfl ?_
  refine J_iconst (v := nI 0) dL_putCat_1 (by decide) ?_
  refine J_aload_n dL_putCat_2 rfl rfl ?_
  refine J_iload_n dL_putCat_3 rfl rfl ?_
  refine J_callV (mi := mL_putCat) (pc := 4) (kb := 0) (sb := 0) dL_putCat_4 YX8_putCat kL_31 hX.rc (c_X8_putCat hX y) rfl rfl (Nat.le_of_ble_eq_true rfl) (by decide) (fun v w1 q => ?_) (fun E w1 q => ?_)
  · obtain ⟨e, rfl⟩ := GXo_V q
    have hO1 := (q.1.1 _ ho).trans hO
    refine J_i2l dL_putCat_7 rfl ?_
    refine K_last dL_putCat_8 hO1 (by decide) (by decide) (fun w2 u => ?_)
    refine J_goto (tgt := 21) dL_putCat_9 (by decide) ?_
    refine J_iconst (v := nI 0) dL_putCat_21 (by decide) ?_
    exact J_ireturn dL_putCat_22 rfl rfl (LPo_ok q e ho u rfl)
  · obtain ⟨e, rfl⟩ := GXo_E q
    rcases lc_putCat G y with hc | hc | hc | hc
    · exact absurd hc e
    · have q2 := q
      rw [hc]
      refine JX_catch (i := 3) (pre := []) (x := ⟨0, 9, 12, 24⟩) (suf := [⟨0, 9, 15, 15⟩, ⟨0, 9, 18, 34⟩]) rfl (fun y hy => by cases hy) rfl (by decide) clL_24 (OL_in (T2 (List.mem_of_getElem? (i := 184) rfl)) rfl) (Or.inl ⟨dL_putCat_12, rfl, 1, rfl, ?_⟩) (by decide) rfl
      refine J_iconst (v := nI 1) dL_putCat_13 (by decide) ?_
      exact J_ireturn dL_putCat_14 rfl rfl (LPo_no q2 hc (by decide) hO ho rfl)
    · have q2 := q
      rw [hc]
      refine JX_catch (i := 3) (pre := [⟨0, 9, 12, 24⟩]) (x := ⟨0, 9, 15, 15⟩) (suf := [⟨0, 9, 18, 34⟩]) rfl (List.forall_mem_cons.mpr ⟨Or.inr ⟨by decide, _, clL_24, List.mem_of_getElem? (i := 13) rfl⟩, fun y hy => by cases hy⟩) rfl (by decide) clL_15 (OL_in (T3 (List.mem_of_getElem? (i := 32) rfl)) rfl) (Or.inl ⟨dL_putCat_15, rfl, 1, rfl, ?_⟩) (by decide) rfl
      refine J_iconst (v := nI 2) dL_putCat_16 (by decide) ?_
      exact J_ireturn dL_putCat_17 rfl rfl (LPo_no q2 hc (by decide) hO ho rfl)
    · have q2 := q
      rw [hc]
      refine JX_catch (i := 3) (pre := [⟨0, 9, 12, 24⟩, ⟨0, 9, 15, 15⟩]) (x := ⟨0, 9, 18, 34⟩) (suf := []) rfl (List.forall_mem_cons.mpr ⟨Or.inr ⟨by decide, _, clL_24, List.mem_of_getElem? (i := 14) rfl⟩, List.forall_mem_cons.mpr ⟨Or.inr ⟨by decide, _, clL_15, List.mem_of_getElem? (i := 8) rfl⟩, fun y hy => by cases hy⟩⟩) rfl (by decide) clL_34 (OL_in (T3 (List.mem_of_getElem? (i := 48) rfl)) rfl) (Or.inl ⟨dL_putCat_18, rfl, 1, rfl, ?_⟩) (by decide) rfl
      refine J_iconst (v := nI 3) dL_putCat_19 (by decide) ?_
      exact J_ireturn dL_putCat_20 rfl rfl (LPo_no q2 hc (by decide) hO ho rfl)

theorem c_L_removeCat {w : Wd} {x o : Nat} {G : Gme} {g0 : Nat → Int64} (hX : RepX w x G) (hO : w.1 o = .inl (2, 1, .inr (.inl g0))) (ho : o < x ∨ x + 126 ≤ o) (y : Int32) : MC 8 mL_removeCat 1 6 [.ref x, .int y, .ref o] w (LPo w x o [1, 5] (gMut G (oShoo (gS G) y))) := by
  refine MC_ofH pnL rfl (fun v hv => by simp only [List.mem_cons, List.not_mem_nil, or_false] at hv; rcases hv with rfl | rfl | rfl <;> rfl) (Nat.le_of_ble_eq_true rfl) (fun E w h => RP_no E w h) ?_
  show J 8 mL_removeCat 0 [some (.ref x), some (.int y), some (.ref o), none] [] w 1 6 _
  refine J_aload_n dL_removeCat_0 rfl rfl ?_
  refine J_iconst (v := nI 0) dL_removeCat_1 (by decide) ?_
  refine J_aload_n dL_removeCat_2 rfl rfl ?_
  refine J_iload_n dL_removeCat_3 rfl rfl ?_
  refine J_callV (mi := mL_removeCat) (pc := 4) (kb := 0) (sb := 0) dL_removeCat_4 YX8_removeCat kL_36 hX.rc (c_X8_removeCat hX y) rfl rfl (Nat.le_of_ble_eq_true rfl) (by decide) (fun v w1 q => ?_) (fun E w1 q => ?_)
  · obtain ⟨e, rfl⟩ := GXo_V q
    have hO1 := (q.1.1 _ ho).trans hO
    refine J_i2l dL_removeCat_7 rfl ?_
    refine K_last dL_removeCat_8 hO1 (by decide) (by decide) (fun w2 u => ?_)
    refine J_goto (tgt := 18) dL_removeCat_9 (by decide) ?_
    refine J_iconst (v := nI 0) dL_removeCat_18 (by decide) ?_
    exact J_ireturn dL_removeCat_19 rfl rfl (LPo_ok q e ho u rfl)
  · obtain ⟨e, rfl⟩ := GXo_E q
    rcases lc_removeCat G y with hc | hc | hc
    · exact absurd hc e
    · have q2 := q
      rw [hc]
      refine JX_catch (i := 3) (pre := []) (x := ⟨0, 9, 12, 24⟩) (suf := [⟨0, 9, 15, 29⟩]) rfl (fun y hy => by cases hy) rfl (by decide) clL_24 (OL_in (T2 (List.mem_of_getElem? (i := 184) rfl)) rfl) (Or.inl ⟨dL_removeCat_12, rfl, 1, rfl, ?_⟩) (by decide) rfl
      refine J_iconst (v := nI 1) dL_removeCat_13 (by decide) ?_
      exact J_ireturn dL_removeCat_14 rfl rfl (LPo_no q2 hc (by decide) hO ho rfl)
    · have q2 := q
      rw [hc]
      refine JX_catch (i := 3) (pre := [⟨0, 9, 12, 24⟩]) (x := ⟨0, 9, 15, 29⟩) (suf := []) rfl (List.forall_mem_cons.mpr ⟨Or.inr ⟨by decide, _, clL_24, List.mem_of_getElem? (i := 15) rfl⟩, fun y hy => by cases hy⟩) rfl (by decide) clL_29 (OL_in (T3 (List.mem_of_getElem? (i := 64) rfl)) rfl) (Or.inl ⟨dL_removeCat_15, rfl, 1, rfl, ?_⟩) (by decide) rfl
      refine J_iconst (v := nI 2) dL_removeCat_16 (by decide) ?_
      exact J_ireturn dL_removeCat_17 rfl rfl (LPo_no q2 hc (by decide) hO ho rfl)

theorem c_L_addTrain {w : Wd} {x o : Nat} {G : Gme} {g0 : Nat → Int64} (hX : RepX w x G) (hO : w.1 o = .inl (2, 1, .inr (.inl g0))) (ho : o < x ∨ x + 126 ≤ o) (y z : Int32) : MC 8 mL_addTrain 1 6 [.ref x, .int y, .int z, .ref o] w (LPo w x o [1, 2, 3, 4] (gMut G (oTrain (gS G) y z))) := by
  refine MC_ofH pnL rfl (fun v hv => by simp only [List.mem_cons, List.not_mem_nil, or_false] at hv; rcases hv with rfl | rfl | rfl | rfl <;> rfl) (Nat.le_of_ble_eq_true rfl) (fun E w h => RP_no E w h) ?_
  show J 8 mL_addTrain 0 [some (.ref x), some (.int y), some (.int z), some (.ref o), none] [] w 1 6 _
  refine J_aload_n dL_addTrain_0 rfl rfl ?_
  refine J_iconst (v := nI 0) dL_addTrain_1 (by decide) ?_
  refine J_aload_n dL_addTrain_2 rfl rfl ?_
  refine J_iload_n dL_addTrain_3 rfl rfl ?_
  refine J_iload_n dL_addTrain_4 rfl rfl ?_
  refine J_callV (mi := mL_addTrain) (pc := 5) (kb := 0) (sb := 0) dL_addTrain_5 YX8_addTrain kL_78 hX.rc (c_X8_addTrain hX y z) rfl rfl (Nat.le_of_ble_eq_true rfl) (by decide) (fun v w1 q => ?_) (fun E w1 q => ?_)
  · obtain ⟨e, rfl⟩ := GXo_V q
    have hO1 := (q.1.1 _ ho).trans hO
    refine J_i2l dL_addTrain_8 rfl ?_
    refine K_last dL_addTrain_9 hO1 (by decide) (by decide) (fun w2 u => ?_)
    refine J_goto (tgt := 29) dL_addTrain_10 (by decide) ?_
    refine J_iconst (v := nI 0) dL_addTrain_29 (by decide) ?_
    exact J_ireturn dL_addTrain_30 rfl rfl (LPo_ok q e ho u rfl)
  · obtain ⟨e, rfl⟩ := GXo_E q
    rcases lc_addTrain G y z with hc | hc | hc | hc | hc
    · exact absurd hc e
    · have q2 := q
      rw [hc]
      refine JX_catch (n := 0) (i := 4) (pre := []) (x := ⟨0, 10, 13, 24⟩) (suf := [⟨0, 10, 17, 13⟩, ⟨0, 10, 21, 15⟩, ⟨0, 10, 25, 34⟩]) rfl (fun y hy => by cases hy) rfl (by decide) clL_24 (OL_in (T2 (List.mem_of_getElem? (i := 184) rfl)) rfl) (Or.inr ⟨dL_addTrain_13, ?_⟩) (by decide) rfl
      refine J_iconst (v := nI 1) dL_addTrain_15 (by decide) ?_
      exact J_ireturn dL_addTrain_16 rfl rfl (LPo_no q2 hc (by decide) hO ho rfl)
    · have q2 := q
      rw [hc]
      refine JX_catch (n := 0) (i := 4) (pre := [⟨0, 10, 13, 24⟩]) (x := ⟨0, 10, 17, 13⟩) (suf := [⟨0, 10, 21, 15⟩, ⟨0, 10, 25, 34⟩]) rfl (List.forall_mem_cons.mpr ⟨Or.inr ⟨by decide, _, clL_24, List.mem_of_getElem? (i := 12) rfl⟩, fun y hy => by cases hy⟩) rfl (by decide) clL_13 (OL_in (T3 (List.mem_of_getElem? (i := 16) rfl)) rfl) (Or.inr ⟨dL_addTrain_17, ?_⟩) (by decide) rfl
      refine J_iconst (v := nI 2) dL_addTrain_19 (by decide) ?_
      exact J_ireturn dL_addTrain_20 rfl rfl (LPo_no q2 hc (by decide) hO ho rfl)
    · have q2 := q
      rw [hc]
      refine JX_catch (n := 0) (i := 4) (pre := [⟨0, 10, 13, 24⟩, ⟨0, 10, 17, 13⟩]) (x := ⟨0, 10, 21, 15⟩) (suf := [⟨0, 10, 25, 34⟩]) rfl (List.forall_mem_cons.mpr ⟨Or.inr ⟨by decide, _, clL_24, List.mem_of_getElem? (i := 13) rfl⟩, List.forall_mem_cons.mpr ⟨Or.inr ⟨by decide, _, clL_13, List.mem_of_getElem? (i := 1) rfl⟩, fun y hy => by cases hy⟩⟩) rfl (by decide) clL_15 (OL_in (T3 (List.mem_of_getElem? (i := 32) rfl)) rfl) (Or.inr ⟨dL_addTrain_21, ?_⟩) (by decide) rfl
      refine J_iconst (v := nI 3) dL_addTrain_23 (by decide) ?_
      exact J_ireturn dL_addTrain_24 rfl rfl (LPo_no q2 hc (by decide) hO ho rfl)
    · have q2 := q
      rw [hc]
      refine JX_catch (n := 0) (i := 4) (pre := [⟨0, 10, 13, 24⟩, ⟨0, 10, 17, 13⟩, ⟨0, 10, 21, 15⟩]) (x := ⟨0, 10, 25, 34⟩) (suf := []) rfl (List.forall_mem_cons.mpr ⟨Or.inr ⟨by decide, _, clL_24, List.mem_of_getElem? (i := 14) rfl⟩, List.forall_mem_cons.mpr ⟨Or.inr ⟨by decide, _, clL_13, List.mem_of_getElem? (i := 2) rfl⟩, List.forall_mem_cons.mpr ⟨Or.inr ⟨by decide, _, clL_15, List.mem_of_getElem? (i := 8) rfl⟩, fun y hy => by cases hy⟩⟩⟩) rfl (by decide) clL_34 (OL_in (T3 (List.mem_of_getElem? (i := 48) rfl)) rfl) (Or.inr ⟨dL_addTrain_25, ?_⟩) (by decide) rfl
      refine J_iconst (v := nI 4) dL_addTrain_27 (by decide) ?_
      exact J_ireturn dL_addTrain_28 rfl rfl (LPo_no q2 hc (by decide) hO ho rfl)

theorem c_L_setGoal {w : Wd} {x o : Nat} {G : Gme} {g0 : Nat → Int64} (hX : RepX w x G) (hO : w.1 o = .inl (2, 1, .inr (.inl g0))) (ho : o < x ∨ x + 126 ≤ o) (y z : Int32) : MC 8 mL_setGoal 1 6 [.ref x, .int y, .int z, .ref o] w (LPo w x o [1, 2, 4, 5] (gMut G (oAim (gS G) y z))) := by
  refine MC_ofH pnL rfl (fun v hv => by simp only [List.mem_cons, List.not_mem_nil, or_false] at hv; rcases hv with rfl | rfl | rfl | rfl <;> rfl) (Nat.le_of_ble_eq_true rfl) (fun E w h => RP_no E w h) ?_
  show J 8 mL_setGoal 0 [some (.ref x), some (.int y), some (.int z), some (.ref o), none] [] w 1 6 _
  refine J_aload_n dL_setGoal_0 rfl rfl ?_
  refine J_iconst (v := nI 0) dL_setGoal_1 (by decide) ?_
  refine J_aload_n dL_setGoal_2 rfl rfl ?_
  refine J_iload_n dL_setGoal_3 rfl rfl ?_
  refine J_iload_n dL_setGoal_4 rfl rfl ?_
  refine J_callV (mi := mL_setGoal) (pc := 5) (kb := 0) (sb := 0) dL_setGoal_5 YX8_setGoal kL_81 hX.rc (c_X8_setGoal hX y z) rfl rfl (Nat.le_of_ble_eq_true rfl) (by decide) (fun v w1 q => ?_) (fun E w1 q => ?_)
  · obtain ⟨e, rfl⟩ := GXo_V q
    have hO1 := (q.1.1 _ ho).trans hO
    refine J_i2l dL_setGoal_8 rfl ?_
    refine K_last dL_setGoal_9 hO1 (by decide) (by decide) (fun w2 u => ?_)
    refine J_goto (tgt := 29) dL_setGoal_10 (by decide) ?_
    refine J_iconst (v := nI 0) dL_setGoal_29 (by decide) ?_
    exact J_ireturn dL_setGoal_30 rfl rfl (LPo_ok q e ho u rfl)
  · obtain ⟨e, rfl⟩ := GXo_E q
    rcases lc_setGoal G y z with hc | hc | hc | hc | hc
    · exact absurd hc e
    · have q2 := q
      rw [hc]
      refine JX_catch (n := 0) (i := 4) (pre := []) (x := ⟨0, 10, 13, 24⟩) (suf := [⟨0, 10, 17, 13⟩, ⟨0, 10, 21, 34⟩, ⟨0, 10, 25, 29⟩]) rfl (fun y hy => by cases hy) rfl (by decide) clL_24 (OL_in (T2 (List.mem_of_getElem? (i := 184) rfl)) rfl) (Or.inr ⟨dL_setGoal_13, ?_⟩) (by decide) rfl
      refine J_iconst (v := nI 1) dL_setGoal_15 (by decide) ?_
      exact J_ireturn dL_setGoal_16 rfl rfl (LPo_no q2 hc (by decide) hO ho rfl)
    · have q2 := q
      rw [hc]
      refine JX_catch (n := 0) (i := 4) (pre := [⟨0, 10, 13, 24⟩]) (x := ⟨0, 10, 17, 13⟩) (suf := [⟨0, 10, 21, 34⟩, ⟨0, 10, 25, 29⟩]) rfl (List.forall_mem_cons.mpr ⟨Or.inr ⟨by decide, _, clL_24, List.mem_of_getElem? (i := 12) rfl⟩, fun y hy => by cases hy⟩) rfl (by decide) clL_13 (OL_in (T3 (List.mem_of_getElem? (i := 16) rfl)) rfl) (Or.inr ⟨dL_setGoal_17, ?_⟩) (by decide) rfl
      refine J_iconst (v := nI 2) dL_setGoal_19 (by decide) ?_
      exact J_ireturn dL_setGoal_20 rfl rfl (LPo_no q2 hc (by decide) hO ho rfl)
    · have q2 := q
      rw [hc]
      refine JX_catch (n := 0) (i := 4) (pre := [⟨0, 10, 13, 24⟩, ⟨0, 10, 17, 13⟩]) (x := ⟨0, 10, 21, 34⟩) (suf := [⟨0, 10, 25, 29⟩]) rfl (List.forall_mem_cons.mpr ⟨Or.inr ⟨by decide, _, clL_24, List.mem_of_getElem? (i := 14) rfl⟩, List.forall_mem_cons.mpr ⟨Or.inr ⟨by decide, _, clL_13, List.mem_of_getElem? (i := 2) rfl⟩, fun y hy => by cases hy⟩⟩) rfl (by decide) clL_34 (OL_in (T3 (List.mem_of_getElem? (i := 48) rfl)) rfl) (Or.inr ⟨dL_setGoal_21, ?_⟩) (by decide) rfl
      refine J_iconst (v := nI 3) dL_setGoal_23 (by decide) ?_
      exact J_ireturn dL_setGoal_24 rfl rfl (LPo_no q2 hc (by decide) hO ho rfl)
    · have q2 := q
      rw [hc]
      refine JX_catch (n := 0) (i := 4) (pre := [⟨0, 10, 13, 24⟩, ⟨0, 10, 17, 13⟩, ⟨0, 10, 21, 34⟩]) (x := ⟨0, 10, 25, 29⟩) (suf := []) rfl (List.forall_mem_cons.mpr ⟨Or.inr ⟨by decide, _, clL_24, List.mem_of_getElem? (i := 15) rfl⟩, List.forall_mem_cons.mpr ⟨Or.inr ⟨by decide, _, clL_13, List.mem_of_getElem? (i := 3) rfl⟩, List.forall_mem_cons.mpr ⟨Or.inr ⟨by decide, _, clL_34, List.mem_of_getElem? (i := 26) rfl⟩, fun y hy => by cases hy⟩⟩⟩) rfl (by decide) clL_29 (OL_in (T3 (List.mem_of_getElem? (i := 64) rfl)) rfl) (Or.inr ⟨dL_setGoal_25, ?_⟩) (by decide) rfl
      refine J_iconst (v := nI 4) dL_setGoal_27 (by decide) ?_
      exact J_ireturn dL_setGoal_28 rfl rfl (LPo_no q2 hc (by decide) hO ho rfl)

theorem c_L_clearGoal {w : Wd} {x o : Nat} {G : Gme} {g0 : Nat → Int64} (hX : RepX w x G) (hO : w.1 o = .inl (2, 1, .inr (.inl g0))) (ho : o < x ∨ x + 126 ≤ o) (y : Int32) : MC 8 mL_clearGoal 1 6 [.ref x, .int y, .ref o] w (LPo w x o [1, 5] (gMut G (oDrop (gS G) y))) := by
  refine MC_ofH pnL rfl (fun v hv => by simp only [List.mem_cons, List.not_mem_nil, or_false] at hv; rcases hv with rfl | rfl | rfl <;> rfl) (Nat.le_of_ble_eq_true rfl) (fun E w h => RP_no E w h) ?_
  show J 8 mL_clearGoal 0 [some (.ref x), some (.int y), some (.ref o), none] [] w 1 6 _
  refine J_aload_n dL_clearGoal_0 rfl rfl ?_
  refine J_iconst (v := nI 0) dL_clearGoal_1 (by decide) ?_
  refine J_aload_n dL_clearGoal_2 rfl rfl ?_
  refine J_iload_n dL_clearGoal_3 rfl rfl ?_
  refine J_callV (mi := mL_clearGoal) (pc := 4) (kb := 0) (sb := 0) dL_clearGoal_4 YX8_clearGoal kL_84 hX.rc (c_X8_clearGoal hX y) rfl rfl (Nat.le_of_ble_eq_true rfl) (by decide) (fun v w1 q => ?_) (fun E w1 q => ?_)
  · obtain ⟨e, rfl⟩ := GXo_V q
    have hO1 := (q.1.1 _ ho).trans hO
    refine J_i2l dL_clearGoal_7 rfl ?_
    refine K_last dL_clearGoal_8 hO1 (by decide) (by decide) (fun w2 u => ?_)
    refine J_goto (tgt := 18) dL_clearGoal_9 (by decide) ?_
    refine J_iconst (v := nI 0) dL_clearGoal_18 (by decide) ?_
    exact J_ireturn dL_clearGoal_19 rfl rfl (LPo_ok q e ho u rfl)
  · obtain ⟨e, rfl⟩ := GXo_E q
    rcases lc_clearGoal G y with hc | hc | hc
    · exact absurd hc e
    · have q2 := q
      rw [hc]
      refine JX_catch (i := 3) (pre := []) (x := ⟨0, 9, 12, 24⟩) (suf := [⟨0, 9, 15, 29⟩]) rfl (fun y hy => by cases hy) rfl (by decide) clL_24 (OL_in (T2 (List.mem_of_getElem? (i := 184) rfl)) rfl) (Or.inl ⟨dL_clearGoal_12, rfl, 1, rfl, ?_⟩) (by decide) rfl
      refine J_iconst (v := nI 1) dL_clearGoal_13 (by decide) ?_
      exact J_ireturn dL_clearGoal_14 rfl rfl (LPo_no q2 hc (by decide) hO ho rfl)
    · have q2 := q
      rw [hc]
      refine JX_catch (i := 3) (pre := [⟨0, 9, 12, 24⟩]) (x := ⟨0, 9, 15, 29⟩) (suf := []) rfl (List.forall_mem_cons.mpr ⟨Or.inr ⟨by decide, _, clL_24, List.mem_of_getElem? (i := 15) rfl⟩, fun y hy => by cases hy⟩) rfl (by decide) clL_29 (OL_in (T3 (List.mem_of_getElem? (i := 64) rfl)) rfl) (Or.inl ⟨dL_clearGoal_15, rfl, 1, rfl, ?_⟩) (by decide) rfl
      refine J_iconst (v := nI 2) dL_clearGoal_16 (by decide) ?_
      exact J_ireturn dL_clearGoal_17 rfl rfl (LPo_no q2 hc (by decide) hO ho rfl)

theorem c_L_reserve {w : Wd} {x o : Nat} {G : Gme} {g0 : Nat → Int64} (hX : RepX w x G) (hO : w.1 o = .inl (2, 1, .inr (.inl g0))) (ho : o < x ∨ x + 126 ≤ o) (y z : Int32) : MC 8 mL_reserve 1 6 [.ref x, .int y, .int z, .ref o] w (LPo w x o [1, 2, 3, 4] (gMut G (oHold (gS G) y z))) := by
  refine MC_ofH pnL rfl (fun v hv => by simp only [List.mem_cons, List.not_mem_nil, or_false] at hv; rcases hv with rfl | rfl | rfl | rfl <;> rfl) (Nat.le_of_ble_eq_true rfl) (fun E w h => RP_no E w h) ?_
  show J 8 mL_reserve 0 [some (.ref x), some (.int y), some (.int z), some (.ref o), none] [] w 1 6 _
  refine J_aload_n dL_reserve_0 rfl rfl ?_
  refine J_iconst (v := nI 0) dL_reserve_1 (by decide) ?_
  refine J_aload_n dL_reserve_2 rfl rfl ?_
  refine J_iload_n dL_reserve_3 rfl rfl ?_
  refine J_iload_n dL_reserve_4 rfl rfl ?_
  refine J_callV (mi := mL_reserve) (pc := 5) (kb := 0) (sb := 0) dL_reserve_5 YX8_reserve kL_87 hX.rc (c_X8_reserve hX y z) rfl rfl (Nat.le_of_ble_eq_true rfl) (by decide) (fun v w1 q => ?_) (fun E w1 q => ?_)
  · obtain ⟨e, rfl⟩ := GXo_V q
    have hO1 := (q.1.1 _ ho).trans hO
    refine J_i2l dL_reserve_8 rfl ?_
    refine K_last dL_reserve_9 hO1 (by decide) (by decide) (fun w2 u => ?_)
    refine J_goto (tgt := 29) dL_reserve_10 (by decide) ?_
    refine J_iconst (v := nI 0) dL_reserve_29 (by decide) ?_
    exact J_ireturn dL_reserve_30 rfl rfl (LPo_ok q e ho u rfl)
  · obtain ⟨e, rfl⟩ := GXo_E q
    rcases lc_reserve G y z with hc | hc | hc | hc | hc
    · exact absurd hc e
    · have q2 := q
      rw [hc]
      refine JX_catch (n := 0) (i := 4) (pre := []) (x := ⟨0, 10, 13, 24⟩) (suf := [⟨0, 10, 17, 13⟩, ⟨0, 10, 21, 15⟩, ⟨0, 10, 25, 34⟩]) rfl (fun y hy => by cases hy) rfl (by decide) clL_24 (OL_in (T2 (List.mem_of_getElem? (i := 184) rfl)) rfl) (Or.inr ⟨dL_reserve_13, ?_⟩) (by decide) rfl
      refine J_iconst (v := nI 1) dL_reserve_15 (by decide) ?_
      exact J_ireturn dL_reserve_16 rfl rfl (LPo_no q2 hc (by decide) hO ho rfl)
    · have q2 := q
      rw [hc]
      refine JX_catch (n := 0) (i := 4) (pre := [⟨0, 10, 13, 24⟩]) (x := ⟨0, 10, 17, 13⟩) (suf := [⟨0, 10, 21, 15⟩, ⟨0, 10, 25, 34⟩]) rfl (List.forall_mem_cons.mpr ⟨Or.inr ⟨by decide, _, clL_24, List.mem_of_getElem? (i := 12) rfl⟩, fun y hy => by cases hy⟩) rfl (by decide) clL_13 (OL_in (T3 (List.mem_of_getElem? (i := 16) rfl)) rfl) (Or.inr ⟨dL_reserve_17, ?_⟩) (by decide) rfl
      refine J_iconst (v := nI 2) dL_reserve_19 (by decide) ?_
      exact J_ireturn dL_reserve_20 rfl rfl (LPo_no q2 hc (by decide) hO ho rfl)
    · have q2 := q
      rw [hc]
      refine JX_catch (n := 0) (i := 4) (pre := [⟨0, 10, 13, 24⟩, ⟨0, 10, 17, 13⟩]) (x := ⟨0, 10, 21, 15⟩) (suf := [⟨0, 10, 25, 34⟩]) rfl (List.forall_mem_cons.mpr ⟨Or.inr ⟨by decide, _, clL_24, List.mem_of_getElem? (i := 13) rfl⟩, List.forall_mem_cons.mpr ⟨Or.inr ⟨by decide, _, clL_13, List.mem_of_getElem? (i := 1) rfl⟩, fun y hy => by cases hy⟩⟩) rfl (by decide) clL_15 (OL_in (T3 (List.mem_of_getElem? (i := 32) rfl)) rfl) (Or.inr ⟨dL_reserve_21, ?_⟩) (by decide) rfl
      refine J_iconst (v := nI 3) dL_reserve_23 (by decide) ?_
      exact J_ireturn dL_reserve_24 rfl rfl (LPo_no q2 hc (by decide) hO ho rfl)
    · have q2 := q
      rw [hc]
      refine JX_catch (n := 0) (i := 4) (pre := [⟨0, 10, 13, 24⟩, ⟨0, 10, 17, 13⟩, ⟨0, 10, 21, 15⟩]) (x := ⟨0, 10, 25, 34⟩) (suf := []) rfl (List.forall_mem_cons.mpr ⟨Or.inr ⟨by decide, _, clL_24, List.mem_of_getElem? (i := 14) rfl⟩, List.forall_mem_cons.mpr ⟨Or.inr ⟨by decide, _, clL_13, List.mem_of_getElem? (i := 2) rfl⟩, List.forall_mem_cons.mpr ⟨Or.inr ⟨by decide, _, clL_15, List.mem_of_getElem? (i := 8) rfl⟩, fun y hy => by cases hy⟩⟩⟩) rfl (by decide) clL_34 (OL_in (T3 (List.mem_of_getElem? (i := 48) rfl)) rfl) (Or.inr ⟨dL_reserve_25, ?_⟩) (by decide) rfl
      refine J_iconst (v := nI 4) dL_reserve_27 (by decide) ?_
      exact J_ireturn dL_reserve_28 rfl rfl (LPo_no q2 hc (by decide) hO ho rfl)

theorem c_L_cancelReservation {w : Wd} {x o : Nat} {G : Gme} {g0 : Nat → Int64} (hX : RepX w x G) (hO : w.1 o = .inl (2, 1, .inr (.inl g0))) (ho : o < x ∨ x + 126 ≤ o) (y : Int32) : MC 8 mL_cancelReservation 1 6 [.ref x, .int y, .ref o] w (LPo w x o [1, 5] (gMut G (oFree (gS G) y))) := by
  refine MC_ofH pnL rfl (fun v hv => by simp only [List.mem_cons, List.not_mem_nil, or_false] at hv; rcases hv with rfl | rfl | rfl <;> rfl) (Nat.le_of_ble_eq_true rfl) (fun E w h => RP_no E w h) ?_
  show J 8 mL_cancelReservation 0 [some (.ref x), some (.int y), some (.ref o), none] [] w 1 6 _
  refine J_aload_n dL_cancelReservation_0 rfl rfl ?_
  refine J_iconst (v := nI 0) dL_cancelReservation_1 (by decide) ?_
  refine J_aload_n dL_cancelReservation_2 rfl rfl ?_
  refine J_iload_n dL_cancelReservation_3 rfl rfl ?_
  refine J_callV (mi := mL_cancelReservation) (pc := 4) (kb := 0) (sb := 0) dL_cancelReservation_4 YX8_cancelReservation kL_90 hX.rc (c_X8_cancelReservation hX y) rfl rfl (Nat.le_of_ble_eq_true rfl) (by decide) (fun v w1 q => ?_) (fun E w1 q => ?_)
  · obtain ⟨e, rfl⟩ := GXo_V q
    have hO1 := (q.1.1 _ ho).trans hO
    refine J_i2l dL_cancelReservation_7 rfl ?_
    refine K_last dL_cancelReservation_8 hO1 (by decide) (by decide) (fun w2 u => ?_)
    refine J_goto (tgt := 18) dL_cancelReservation_9 (by decide) ?_
    refine J_iconst (v := nI 0) dL_cancelReservation_18 (by decide) ?_
    exact J_ireturn dL_cancelReservation_19 rfl rfl (LPo_ok q e ho u rfl)
  · obtain ⟨e, rfl⟩ := GXo_E q
    rcases lc_cancelReservation G y with hc | hc | hc
    · exact absurd hc e
    · have q2 := q
      rw [hc]
      refine JX_catch (i := 3) (pre := []) (x := ⟨0, 9, 12, 24⟩) (suf := [⟨0, 9, 15, 29⟩]) rfl (fun y hy => by cases hy) rfl (by decide) clL_24 (OL_in (T2 (List.mem_of_getElem? (i := 184) rfl)) rfl) (Or.inl ⟨dL_cancelReservation_12, rfl, 1, rfl, ?_⟩) (by decide) rfl
      refine J_iconst (v := nI 1) dL_cancelReservation_13 (by decide) ?_
      exact J_ireturn dL_cancelReservation_14 rfl rfl (LPo_no q2 hc (by decide) hO ho rfl)
    · have q2 := q
      rw [hc]
      refine JX_catch (i := 3) (pre := [⟨0, 9, 12, 24⟩]) (x := ⟨0, 9, 15, 29⟩) (suf := []) rfl (List.forall_mem_cons.mpr ⟨Or.inr ⟨by decide, _, clL_24, List.mem_of_getElem? (i := 15) rfl⟩, fun y hy => by cases hy⟩) rfl (by decide) clL_29 (OL_in (T3 (List.mem_of_getElem? (i := 64) rfl)) rfl) (Or.inl ⟨dL_cancelReservation_15, rfl, 1, rfl, ?_⟩) (by decide) rfl
      refine J_iconst (v := nI 2) dL_cancelReservation_16 (by decide) ?_
      exact J_ireturn dL_cancelReservation_17 rfl rfl (LPo_no q2 hc (by decide) hO ho rfl)

end JHELP

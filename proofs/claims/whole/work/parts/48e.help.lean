/-! THE LAW: its helpers -/
section JHELP
theorem c_L_ticksUntilArrival {w : Wd} {x o : Nat} {G : Gme} {g0 : Nat → Int64} (hX : RepX w x G) (hO : w.1 o = .inl (2, 1, .inr (.inl g0))) (ho : o < x ∨ x + 126 ≤ o) (y : Int32) : MC 9 mL_ticksUntilArrival 1 6 [.ref x, .int y, .ref o] w (LPo w x o [1, 5] (gQ G (qArr (gS G) y))) := by
  refine MC_ofH pnL rfl (fun v hv => by simp only [List.mem_cons, List.not_mem_nil, or_false] at hv; rcases hv with rfl | rfl | rfl <;> rfl) (Nat.le_of_ble_eq_true rfl) (fun E w h => RP_no E w h) ?_
  show J 9 mL_ticksUntilArrival 0 [some (.ref x), some (.int y), some (.ref o), none] [] w 1 6 _
  refine J_aload_n dL_ticksUntilArrival_0 rfl rfl ?_
  refine J_iconst (v := nI 0) dL_ticksUntilArrival_1 (by decide) ?_
  refine J_aload_n dL_ticksUntilArrival_2 rfl rfl ?_
  refine J_iload_n dL_ticksUntilArrival_3 rfl rfl ?_
  refine J_callV (mi := mL_ticksUntilArrival) (pc := 4) (kb := 0) (sb := 0) dL_ticksUntilArrival_4 YX8_ticksUntilArrival kL_123 hX.rc (c_X8_ticksUntilArrival hX y) rfl rfl (Nat.le_of_ble_eq_true rfl) (by decide) (fun v w1 q => ?_) (fun E w1 q => ?_)
  · obtain ⟨e, rfl⟩ := GXo_V q
    have hO1 := (q.1.1 _ ho).trans hO
    refine J_i2l dL_ticksUntilArrival_7 rfl ?_
    refine K_last dL_ticksUntilArrival_8 hO1 (by decide) (by decide) (fun w2 u => ?_)
    refine J_goto (tgt := 18) dL_ticksUntilArrival_9 (by decide) ?_
    refine J_iconst (v := nI 0) dL_ticksUntilArrival_18 (by decide) ?_
    exact J_ireturn dL_ticksUntilArrival_19 rfl rfl (LPo_ok q e ho u rfl)
  · obtain ⟨e, rfl⟩ := GXo_E q
    rcases lc_ticksUntilArrival G y with hc | hc | hc
    · exact absurd hc e
    · have q2 := q
      rw [hc]
      refine JX_catch (i := 3) (pre := []) (x := ⟨0, 9, 12, 24⟩) (suf := [⟨0, 9, 15, 29⟩]) rfl (fun y hy => by cases hy) rfl (by decide) clL_24 (OL_in (T2 (List.mem_of_getElem? (i := 184) rfl)) rfl) (Or.inl ⟨dL_ticksUntilArrival_12, rfl, 1, rfl, ?_⟩) (by decide) rfl
      refine J_iconst (v := nI 1) dL_ticksUntilArrival_13 (by decide) ?_
      exact J_ireturn dL_ticksUntilArrival_14 rfl rfl (LPo_no q2 hc (by decide) hO ho rfl)
    · have q2 := q
      rw [hc]
      refine JX_catch (i := 3) (pre := [⟨0, 9, 12, 24⟩]) (x := ⟨0, 9, 15, 29⟩) (suf := []) rfl (List.forall_mem_cons.mpr ⟨Or.inr ⟨by decide, _, clL_24, List.mem_of_getElem? (i := 15) rfl⟩, fun y hy => by cases hy⟩) rfl (by decide) clL_29 (OL_in (T3 (List.mem_of_getElem? (i := 64) rfl)) rfl) (Or.inl ⟨dL_ticksUntilArrival_15, rfl, 1, rfl, ?_⟩) (by decide) rfl
      refine J_iconst (v := nI 2) dL_ticksUntilArrival_16 (by decide) ?_
      exact J_ireturn dL_ticksUntilArrival_17 rfl rfl (LPo_no q2 hc (by decide) hO ho rfl)

theorem c_L_writeTrain {w : Wd} {x o : Nat} {G : Gme} {g0 : Nat → Int64} (hX : RepX w x G) (hO : w.1 o = .inl (2, 1, .inr (.inl g0))) (ho : o < x ∨ x + 126 ≤ o) (y : Int32) : MC 8 mL_writeTrain 1 6 [.ref x, .int y, .ref o] w (LPo w x o [1] (gTrn G y)) := by
  refine MC_ofH pnL rfl (fun v hv => by simp only [List.mem_cons, List.not_mem_nil, or_false] at hv; rcases hv with rfl | rfl | rfl <;> rfl) (Nat.le_of_ble_eq_true rfl) (fun E w h => RP_no E w h) ?_
  show J 8 mL_writeTrain 0 [some (.ref x), some (.int y), some (.ref o), none] [] w 1 6 _
  refine J_aload_n dL_writeTrain_0 rfl rfl ?_
  refine J_iconst (v := nI 0) dL_writeTrain_1 (by decide) ?_
  refine J_aload_n dL_writeTrain_2 rfl rfl ?_
  refine J_iload_n dL_writeTrain_3 rfl rfl ?_
  refine J_callV (mi := mL_writeTrain) (pc := 4) (kb := 0) (sb := 0) dL_writeTrain_4 YX8_writeTrain kL_136 hX.rc (c_X8_writeTrain hX y) rfl rfl (Nat.le_of_ble_eq_true rfl) (by decide) (fun v w1 q => ?_) (fun E w1 q => ?_)
  · obtain ⟨e, rfl⟩ := GXo_V q
    have hO1 := (q.1.1 _ ho).trans hO
    refine J_i2l dL_writeTrain_7 rfl ?_
    refine K_last dL_writeTrain_8 hO1 (by decide) (by decide) (fun w2 u => ?_)
    refine J_goto (tgt := 15) dL_writeTrain_9 (by decide) ?_
    refine J_iconst (v := nI 0) dL_writeTrain_15 (by decide) ?_
    exact J_ireturn dL_writeTrain_16 rfl rfl (LPo_ok q e ho u rfl)
  · obtain ⟨e, rfl⟩ := GXo_E q
    rcases lc_writeTrain G y with hc | hc
    · exact absurd hc e
    · have q2 := q
      rw [hc]
      refine JX_catch (i := 3) (pre := []) (x := ⟨0, 9, 12, 24⟩) (suf := []) rfl (fun y hy => by cases hy) rfl (by decide) clL_24 (OL_in (T2 (List.mem_of_getElem? (i := 184) rfl)) rfl) (Or.inl ⟨dL_writeTrain_12, rfl, 1, rfl, ?_⟩) (by decide) rfl
      refine J_iconst (v := nI 1) dL_writeTrain_13 (by decide) ?_
      exact J_ireturn dL_writeTrain_14 rfl rfl (LPo_no q2 hc (by decide) hO ho rfl)

theorem c_L_outputCharacter {w : Wd} {x o : Nat} {G : Gme} {g0 : Nat → Int64} (hX : RepX w x G) (hO : w.1 o = .inl (2, 1, .inr (.inl g0))) (ho : o < x ∨ x + 126 ≤ o) (y : Int32) : MC 7 mL_outputCharacter 1 6 [.ref x, .int y, .ref o] w (LPo w x o [1] (gQ G (gChr G y))) := by
  refine MC_ofH pnL rfl (fun v hv => by simp only [List.mem_cons, List.not_mem_nil, or_false] at hv; rcases hv with rfl | rfl | rfl <;> rfl) (Nat.le_of_ble_eq_true rfl) (fun E w h => RP_no E w h) ?_
  show J 7 mL_outputCharacter 0 [some (.ref x), some (.int y), some (.ref o), none] [] w 1 6 _
  refine J_aload_n dL_outputCharacter_0 rfl rfl ?_
  refine J_iconst (v := nI 0) dL_outputCharacter_1 (by decide) ?_
  refine J_aload_n dL_outputCharacter_2 rfl rfl ?_
  refine J_iload_n dL_outputCharacter_3 rfl rfl ?_
  refine J_callV (mi := mL_outputCharacter) (pc := 4) (kb := 0) (sb := 0) dL_outputCharacter_4 YX8_outputCharacter kL_139 hX.rc (c_X8_outputCharacter hX y) rfl rfl (Nat.le_of_ble_eq_true rfl) (by decide) (fun v w1 q => ?_) (fun E w1 q => ?_)
  · obtain ⟨e, rfl⟩ := GXo_V q
    have hO1 := (q.1.1 _ ho).trans hO
    refine J_i2l dL_outputCharacter_7 rfl ?_
    refine K_last dL_outputCharacter_8 hO1 (by decide) (by decide) (fun w2 u => ?_)
    refine J_goto (tgt := 15) dL_outputCharacter_9 (by decide) ?_
    refine J_iconst (v := nI 0) dL_outputCharacter_15 (by decide) ?_
    exact J_ireturn dL_outputCharacter_16 rfl rfl (LPo_ok q e ho u rfl)
  · obtain ⟨e, rfl⟩ := GXo_E q
    rcases lc_outputCharacter G y with hc | hc
    · exact absurd hc e
    · have q2 := q
      rw [hc]
      refine JX_catch (i := 3) (pre := []) (x := ⟨0, 9, 12, 24⟩) (suf := []) rfl (fun y hy => by cases hy) rfl (by decide) clL_24 (OL_in (T2 (List.mem_of_getElem? (i := 184) rfl)) rfl) (Or.inl ⟨dL_outputCharacter_12, rfl, 1, rfl, ?_⟩) (by decide) rfl
      refine J_iconst (v := nI 1) dL_outputCharacter_13 (by decide) ?_
      exact J_ireturn dL_outputCharacter_14 rfl rfl (LPo_no q2 hc (by decide) hO ho rfl)

theorem c_L_feed {w : Wd} {x o : Nat} {G : Gme} {g0 : Nat → Int64} (hX : RepX w x G) (hO : w.1 o = .inl (2, 1, .inr (.inl g0))) (ho : o < x ∨ x + 126 ≤ o) {c : Nat} (hc : c < 65536) : MC 7 mL_feed 1 6 [.ref x, .int (nI c), .ref o] w (LPo w x o [3] (gFeed G c)) := by
  refine MC_ofH pnL rfl (fun v hv => by simp only [List.mem_cons, List.not_mem_nil, or_false] at hv; rcases hv with rfl | rfl | rfl <;> rfl) (Nat.le_of_ble_eq_true rfl) (fun E w h => RP_no E w h) ?_
  show J 7 mL_feed 0 [some (.ref x), some (.int (nI c)), some (.ref o), none] [] w 1 6 _
  refine J_aload_n dL_feed_0 rfl rfl ?_
  refine J_iconst (v := nI 0) dL_feed_1 (by decide) ?_
  refine J_aload_n dL_feed_2 rfl rfl ?_
  refine J_iload_n dL_feed_3 rfl rfl ?_
  refine J_callV (mi := mL_feed) (pc := 4) (kb := 0) (sb := 0) dL_feed_4 YX8_feed kL_142 hX.rc (c_X8_feed hX hc) rfl rfl (Nat.le_of_ble_eq_true rfl) (by decide) (fun v w1 q => ?_) (fun E w1 q => ?_)
  · obtain ⟨e, rfl⟩ := GXo_V q
    have hO1 := (q.1.1 _ ho).trans hO
    refine J_i2l dL_feed_7 rfl ?_
    refine K_last dL_feed_8 hO1 (by decide) (by decide) (fun w2 u => ?_)
    refine J_goto (tgt := 15) dL_feed_9 (by decide) ?_
    refine J_iconst (v := nI 0) dL_feed_15 (by decide) ?_
    exact J_ireturn dL_feed_16 rfl rfl (LPo_ok q e ho u rfl)
  · obtain ⟨e, rfl⟩ := GXo_E q
    rcases lc_feed G (c := c) with hc | hc
    · exact absurd hc e
    · have q2 := q
      rw [hc]
      refine JX_catch (i := 3) (pre := []) (x := ⟨0, 9, 12, 15⟩) (suf := []) rfl (fun y hy => by cases hy) rfl (by decide) clL_15 (OL_in (T3 (List.mem_of_getElem? (i := 32) rfl)) rfl) (Or.inl ⟨dL_feed_12, rfl, 1, rfl, ?_⟩) (by decide) rfl
      refine J_iconst (v := nI 1) dL_feed_13 (by decide) ?_
      exact J_ireturn dL_feed_14 rfl rfl (LPo_no q2 hc (by decide) hO ho rfl)

theorem c_L_execute {w : Wd} {x o : Nat} {G : Gme} {g0 : Nat → Int64} (hX : RepX w x G) (hO : w.1 o = .inl (2, 1, .inr (.inl g0))) (ho : o < x ∨ x + 126 ≤ o)  : MC 15 mL_execute 1 6 [.ref x, .ref o] w (LPo w x o [2, 4] (gExec G)) := by
  refine MC_ofH pnL rfl (fun v hv => by simp only [List.mem_cons, List.not_mem_nil, or_false] at hv; rcases hv with rfl | rfl <;> rfl) (Nat.le_of_ble_eq_true rfl) (fun E w h => RP_no E w h) ?_
  show J 15 mL_execute 0 [some (.ref x), some (.ref o), none] [] w 1 6 _
  refine J_aload_n dL_execute_0 rfl rfl ?_
  refine J_iconst (v := nI 0) dL_execute_1 (by decide) ?_
  refine J_aload_n dL_execute_2 rfl rfl ?_
  refine J_callV (mi := mL_execute) (pc := 3) (kb := 0) (sb := 0) dL_execute_3 YX8_execute kL_146 hX.rc (c_X8_execute hX) rfl rfl (Nat.le_of_ble_eq_true rfl) (by decide) (fun v w1 q => ?_) (fun E w1 q => ?_)
  · obtain ⟨e, rfl⟩ := GXo_V q
    have hO1 := (q.1.1 _ ho).trans hO
    refine J_i2l dL_execute_6 rfl ?_
    refine K_last dL_execute_7 hO1 (by decide) (by decide) (fun w2 u => ?_)
    refine J_goto (tgt := 17) dL_execute_8 (by decide) ?_
    refine J_iconst (v := nI 0) dL_execute_17 (by decide) ?_
    exact J_ireturn dL_execute_18 rfl rfl (LPo_ok q e ho u rfl)
  · obtain ⟨e, rfl⟩ := GXo_E q
    rcases lc_execute G with hc | hc | hc
    · exact absurd hc e
    · have q2 := q
      rw [hc]
      refine JX_catch (i := 2) (pre := []) (x := ⟨0, 8, 11, 13⟩) (suf := [⟨0, 8, 14, 34⟩]) rfl (fun y hy => by cases hy) rfl (by decide) clL_13 (OL_in (T3 (List.mem_of_getElem? (i := 16) rfl)) rfl) (Or.inl ⟨dL_execute_11, rfl, 1, rfl, ?_⟩) (by decide) rfl
      refine J_iconst (v := nI 1) dL_execute_12 (by decide) ?_
      exact J_ireturn dL_execute_13 rfl rfl (LPo_no q2 hc (by decide) hO ho rfl)
    · have q2 := q
      rw [hc]
      refine JX_catch (i := 2) (pre := [⟨0, 8, 11, 13⟩]) (x := ⟨0, 8, 14, 34⟩) (suf := []) rfl (List.forall_mem_cons.mpr ⟨Or.inr ⟨by decide, _, clL_13, List.mem_of_getElem? (i := 2) rfl⟩, fun y hy => by cases hy⟩) rfl (by decide) clL_34 (OL_in (T3 (List.mem_of_getElem? (i := 48) rfl)) rfl) (Or.inl ⟨dL_execute_14, rfl, 1, rfl, ?_⟩) (by decide) rfl
      refine J_iconst (v := nI 2) dL_execute_15 (by decide) ?_
      exact J_ireturn dL_execute_16 rfl rfl (LPo_no q2 hc (by decide) hO ho rfl)

theorem c_L_errorPosition {w : Wd} {x o : Nat} {G : Gme} {g0 : Nat → Int64} (hX : RepX w x G) (hO : w.1 o = .inl (2, 1, .inr (.inl g0))) (ho : o < x ∨ x + 126 ≤ o)  : MC 8 mL_errorPosition 1 6 [.ref x, .ref o] w (LPo w x o [5] (gQ G (opA (gE G)))) := by
  refine MC_ofH pnL rfl (fun v hv => by simp only [List.mem_cons, List.not_mem_nil, or_false] at hv; rcases hv with rfl | rfl <;> rfl) (Nat.le_of_ble_eq_true rfl) (fun E w h => RP_no E w h) ?_
  show J 8 mL_errorPosition 0 [some (.ref x), some (.ref o), none] [] w 1 6 _
  refine J_aload_n dL_errorPosition_0 rfl rfl ?_
  refine J_iconst (v := nI 0) dL_errorPosition_1 (by decide) ?_
  refine J_aload_n dL_errorPosition_2 rfl rfl ?_
  refine J_callV (mi := mL_errorPosition) (pc := 3) (kb := 0) (sb := 0) dL_errorPosition_3 YX8_errorPosition kL_150 hX.rc (c_X8_errorPosition hX) rfl rfl (Nat.le_of_ble_eq_true rfl) (by decide) (fun v w1 q => ?_) (fun E w1 q => ?_)
  · obtain ⟨e, rfl⟩ := GXo_V q
    have hO1 := (q.1.1 _ ho).trans hO
    refine J_i2l dL_errorPosition_6 rfl ?_
    refine K_last dL_errorPosition_7 hO1 (by decide) (by decide) (fun w2 u => ?_)
    refine J_goto (tgt := 14) dL_errorPosition_8 (by decide) ?_
    refine J_iconst (v := nI 0) dL_errorPosition_14 (by decide) ?_
    exact J_ireturn dL_errorPosition_15 rfl rfl (LPo_ok q e ho u rfl)
  · obtain ⟨e, rfl⟩ := GXo_E q
    rcases lc_errorPosition G with hc | hc
    · exact absurd hc e
    · have q2 := q
      rw [hc]
      refine JX_catch (i := 2) (pre := []) (x := ⟨0, 8, 11, 29⟩) (suf := []) rfl (fun y hy => by cases hy) rfl (by decide) clL_29 (OL_in (T3 (List.mem_of_getElem? (i := 64) rfl)) rfl) (Or.inl ⟨dL_errorPosition_11, rfl, 1, rfl, ?_⟩) (by decide) rfl
      refine J_iconst (v := nI 1) dL_errorPosition_12 (by decide) ?_
      exact J_ireturn dL_errorPosition_13 rfl rfl (LPo_no q2 hc (by decide) hO ho rfl)

theorem c_L_failedCommand {w : Wd} {x o : Nat} {G : Gme} {g0 : Nat → Int64} (hX : RepX w x G) (hO : w.1 o = .inl (2, 1, .inr (.inl g0))) (ho : o < x ∨ x + 126 ≤ o)  : MC 8 mL_failedCommand 1 6 [.ref x, .ref o] w (LPo w x o [5] (gQ G (opA (gF G)))) := by
  refine MC_ofH pnL rfl (fun v hv => by simp only [List.mem_cons, List.not_mem_nil, or_false] at hv; rcases hv with rfl | rfl <;> rfl) (Nat.le_of_ble_eq_true rfl) (fun E w h => RP_no E w h) ?_
  show J 8 mL_failedCommand 0 [some (.ref x), some (.ref o), none] [] w 1 6 _
  refine J_aload_n dL_failedCommand_0 rfl rfl ?_
  refine J_iconst (v := nI 0) dL_failedCommand_1 (by decide) ?_
  refine J_aload_n dL_failedCommand_2 rfl rfl ?_
  refine J_callV (mi := mL_failedCommand) (pc := 3) (kb := 0) (sb := 0) dL_failedCommand_3 YX8_failedCommand kL_153 hX.rc (c_X8_failedCommand hX) rfl rfl (Nat.le_of_ble_eq_true rfl) (by decide) (fun v w1 q => ?_) (fun E w1 q => ?_)
  · obtain ⟨e, rfl⟩ := GXo_V q
    have hO1 := (q.1.1 _ ho).trans hO
    refine J_i2l dL_failedCommand_6 rfl ?_
    refine K_last dL_failedCommand_7 hO1 (by decide) (by decide) (fun w2 u => ?_)
    refine J_goto (tgt := 14) dL_failedCommand_8 (by decide) ?_
    refine J_iconst (v := nI 0) dL_failedCommand_14 (by decide) ?_
    exact J_ireturn dL_failedCommand_15 rfl rfl (LPo_ok q e ho u rfl)
  · obtain ⟨e, rfl⟩ := GXo_E q
    rcases lc_failedCommand G with hc | hc
    · exact absurd hc e
    · have q2 := q
      rw [hc]
      refine JX_catch (i := 2) (pre := []) (x := ⟨0, 8, 11, 29⟩) (suf := []) rfl (fun y hy => by cases hy) rfl (by decide) clL_29 (OL_in (T3 (List.mem_of_getElem? (i := 64) rfl)) rfl) (Or.inl ⟨dL_failedCommand_11, rfl, 1, rfl, ?_⟩) (by decide) rfl
      refine J_iconst (v := nI 1) dL_failedCommand_12 (by decide) ?_
      exact J_ireturn dL_failedCommand_13 rfl rfl (LPo_no q2 hc (by decide) hO ho rfl)

theorem c_L_undo {w : Wd} {x o : Nat} {G : Gme} {g0 : Nat → Int64} (hX : RepX w x G) (hO : w.1 o = .inl (2, 1, .inr (.inl g0))) (ho : o < x ∨ x + 126 ≤ o)  : MC 7 mL_undo 1 6 [.ref x, .ref o] w (LPo w x o [3] (gUndo G)) := by
  refine MC_ofH pnL rfl (fun v hv => by simp only [List.mem_cons, List.not_mem_nil, or_false] at hv; rcases hv with rfl | rfl <;> rfl) (Nat.le_of_ble_eq_true rfl) (fun E w h => RP_no E w h) ?_
  show J 7 mL_undo 0 [some (.ref x), some (.ref o), none] [] w 1 6 _
  refine J_aload_n dL_undo_0 rfl rfl ?_
  refine J_iconst (v := nI 0) dL_undo_1 (by decide) ?_
  refine J_aload_n dL_undo_2 rfl rfl ?_
  refine J_callV (mi := mL_undo) (pc := 3) (kb := 0) (sb := 0) dL_undo_3 YX8_undo kL_156 hX.rc (c_X8_undo hX) rfl rfl (Nat.le_of_ble_eq_true rfl) (by decide) (fun v w1 q => ?_) (fun E w1 q => ?_)
  · obtain ⟨e, rfl⟩ := GXo_V q
    have hO1 := (q.1.1 _ ho).trans hO
    refine J_i2l dL_undo_6 rfl ?_
    refine K_last dL_undo_7 hO1 (by decide) (by decide) (fun w2 u => ?_)
    refine J_goto (tgt := 14) dL_undo_8 (by decide) ?_
    refine J_iconst (v := nI 0) dL_undo_14 (by decide) ?_
    exact J_ireturn dL_undo_15 rfl rfl (LPo_ok q e ho u rfl)
  · obtain ⟨e, rfl⟩ := GXo_E q
    rcases lc_undo G with hc | hc
    · exact absurd hc e
    · have q2 := q
      rw [hc]
      refine JX_catch (i := 2) (pre := []) (x := ⟨0, 8, 11, 15⟩) (suf := []) rfl (fun y hy => by cases hy) rfl (by decide) clL_15 (OL_in (T3 (List.mem_of_getElem? (i := 32) rfl)) rfl) (Or.inl ⟨dL_undo_11, rfl, 1, rfl, ?_⟩) (by decide) rfl
      refine J_iconst (v := nI 1) dL_undo_12 (by decide) ?_
      exact J_ireturn dL_undo_13 rfl rfl (LPo_no q2 hc (by decide) hO ho rfl)

theorem c_L_restore {w : Wd} {x o : Nat} {G : Gme} {g0 : Nat → Int64} (hX : RepX w x G) (hO : w.1 o = .inl (2, 1, .inr (.inl g0))) (ho : o < x ∨ x + 126 ≤ o)  : MC 7 mL_restore 1 6 [.ref x, .ref o] w (LPo w x o [3] (gRest G)) := by
  refine MC_ofH pnL rfl (fun v hv => by simp only [List.mem_cons, List.not_mem_nil, or_false] at hv; rcases hv with rfl | rfl <;> rfl) (Nat.le_of_ble_eq_true rfl) (fun E w h => RP_no E w h) ?_
  show J 7 mL_restore 0 [some (.ref x), some (.ref o), none] [] w 1 6 _
  refine J_aload_n dL_restore_0 rfl rfl ?_
  refine J_iconst (v := nI 0) dL_restore_1 (by decide) ?_
  refine J_aload_n dL_restore_2 rfl rfl ?_
  refine J_callV (mi := mL_restore) (pc := 3) (kb := 0) (sb := 0) dL_restore_3 YX8_restore kL_159 hX.rc (c_X8_restore hX) rfl rfl (Nat.le_of_ble_eq_true rfl) (by decide) (fun v w1 q => ?_) (fun E w1 q => ?_)
  · obtain ⟨e, rfl⟩ := GXo_V q
    have hO1 := (q.1.1 _ ho).trans hO
    refine J_i2l dL_restore_6 rfl ?_
    refine K_last dL_restore_7 hO1 (by decide) (by decide) (fun w2 u => ?_)
    refine J_goto (tgt := 14) dL_restore_8 (by decide) ?_
    refine J_iconst (v := nI 0) dL_restore_14 (by decide) ?_
    exact J_ireturn dL_restore_15 rfl rfl (LPo_ok q e ho u rfl)
  · obtain ⟨e, rfl⟩ := GXo_E q
    rcases lc_restore G with hc | hc
    · exact absurd hc e
    · have q2 := q
      rw [hc]
      refine JX_catch (i := 2) (pre := []) (x := ⟨0, 8, 11, 15⟩) (suf := []) rfl (fun y hy => by cases hy) rfl (by decide) clL_15 (OL_in (T3 (List.mem_of_getElem? (i := 32) rfl)) rfl) (Or.inl ⟨dL_restore_11, rfl, 1, rfl, ?_⟩) (by decide) rfl
      refine J_iconst (v := nI 1) dL_restore_12 (by decide) ?_
      exact J_ireturn dL_restore_13 rfl rfl (LPo_no q2 hc (by decide) hO ho rfl)

end JHELP

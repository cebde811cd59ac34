/-! THE LAW: its helpers -/
section JHELP
theorem c_L_isDerailed {w : Wd} {x o : Nat} {G : Gme} {g0 : Nat → Int64} (hX : RepX w x G) (hO : w.1 o = .inl (2, 1, .inr (.inl g0))) (ho : o < x ∨ x + 126 ≤ o) (y : Int32) : MC 8 mL_isDerailed 1 6 [.ref x, .int y, .ref o] w (LPo w x o [1] (gQ G (onI (sNt (gS G)) y (fun i => (0, b2i (sOf (gS G) i)))))) := by
  refine MC_ofH pnL rfl (fun v hv => by simp only [List.mem_cons, List.not_mem_nil, or_false] at hv; rcases hv with rfl | rfl | rfl <;> rfl) (Nat.le_of_ble_eq_true rfl) (fun E w h => RP_no E w h) ?_
  show J 8 mL_isDerailed 0 [some (.ref x), some (.int y), some (.ref o), none] [] w 1 6 _
  refine J_aload_n dL_isDerailed_0 rfl rfl ?_
  refine J_iconst (v := nI 0) dL_isDerailed_1 (by decide) ?_
  refine J_aload_n dL_isDerailed_2 rfl rfl ?_
  refine J_iload_n dL_isDerailed_3 rfl rfl ?_
  refine J_callV (mi := mL_isDerailed) (pc := 4) (kb := 0) (sb := 0) dL_isDerailed_4 YX8_isDerailed kL_108 hX.rc (c_X8_isDerailed hX y) rfl rfl (Nat.le_of_ble_eq_true rfl) (by decide) (fun v w1 q => ?_) (fun E w1 q => ?_)
  · obtain ⟨e, rfl⟩ := GXo_V q
    have hO1 := (q.1.1 _ ho).trans hO
    refine J_if_eq (tgt := 14) dL_isDerailed_7 (by decide) (fun h => ?_) (fun h => ?_)
    · refine J_lconst (v := Int64.ofNat 0) dL_isDerailed_14 rfl ?_
      refine K_last dL_isDerailed_15 hO1 (by decide) (by decide) (fun w2 u => ?_)
      refine J_goto (tgt := 22) dL_isDerailed_16 (by decide) ?_
      refine J_iconst (v := nI 0) dL_isDerailed_22 (by decide) ?_
      exact J_ireturn dL_isDerailed_23 rfl rfl (LPo_ok q e ho u (by rw [h]; decide))
    · refine J_lconst (v := Int64.ofNat 1) dL_isDerailed_10 rfl ?_
      refine J_goto (tgt := 15) dL_isDerailed_11 (by decide) ?_
      refine K_last dL_isDerailed_15 hO1 (by decide) (by decide) (fun w2 u => ?_)
      refine J_goto (tgt := 22) dL_isDerailed_16 (by decide) ?_
      refine J_iconst (v := nI 0) dL_isDerailed_22 (by decide) ?_
      exact J_ireturn dL_isDerailed_23 rfl rfl (LPo_ok q e ho u (lw_b1 (lb_isDerailed G y) h))
  · obtain ⟨e, rfl⟩ := GXo_E q
    rcases lc_isDerailed G y with hc | hc
    · exact absurd hc e
    · have q2 := q
      rw [hc]
      refine JX_catch (i := 3) (pre := []) (x := ⟨0, 16, 19, 24⟩) (suf := []) rfl (fun y hy => by cases hy) rfl (by decide) clL_24 (OL_in (T2 (List.mem_of_getElem? (i := 184) rfl)) rfl) (Or.inl ⟨dL_isDerailed_19, rfl, 1, rfl, ?_⟩) (by decide) rfl
      refine J_iconst (v := nI 1) dL_isDerailed_20 (by decide) ?_
      exact J_ireturn dL_isDerailed_21 rfl rfl (LPo_no q2 hc (by decide) hO ho rfl)

theorem c_L_trainIn {w : Wd} {x o : Nat} {G : Gme} {g0 : Nat → Int64} (hX : RepX w x G) (hO : w.1 o = .inl (2, 1, .inr (.inl g0))) (ho : o < x ∨ x + 126 ≤ o) (y : Int32) : MC 8 mL_trainIn 1 6 [.ref x, .int y, .ref o] w (LPo w x o [1, 5] (gQ G (onI (sNb (gS G)) y (fun i => opA (tAt (gS G) i))))) := by
  refine MC_ofH pnL rfl (fun v hv => by simp only [List.mem_cons, List.not_mem_nil, or_false] at hv; rcases hv with rfl | rfl | rfl <;> rfl) (Nat.le_of_ble_eq_true rfl) (fun E w h => RP_no E w h) ?_
  show J 8 mL_trainIn 0 [some (.ref x), some (.int y), some (.ref o), none] [] w 1 6 _
  refine J_aload_n dL_trainIn_0 rfl rfl ?_
  refine J_iconst (v := nI 0) dL_trainIn_1 (by decide) ?_
  refine J_aload_n dL_trainIn_2 rfl rfl ?_
  refine J_iload_n dL_trainIn_3 rfl rfl ?_
  refine J_callV (mi := mL_trainIn) (pc := 4) (kb := 0) (sb := 0) dL_trainIn_4 YX8_trainIn kL_56 hX.rc (c_X8_trainIn hX y) rfl rfl (Nat.le_of_ble_eq_true rfl) (by decide) (fun v w1 q => ?_) (fun E w1 q => ?_)
  · obtain ⟨e, rfl⟩ := GXo_V q
    have hO1 := (q.1.1 _ ho).trans hO
    refine J_i2l dL_trainIn_7 rfl ?_
    refine K_last dL_trainIn_8 hO1 (by decide) (by decide) (fun w2 u => ?_)
    refine J_goto (tgt := 18) dL_trainIn_9 (by decide) ?_
    refine J_iconst (v := nI 0) dL_trainIn_18 (by decide) ?_
    exact J_ireturn dL_trainIn_19 rfl rfl (LPo_ok q e ho u rfl)
  · obtain ⟨e, rfl⟩ := GXo_E q
    rcases lc_trainIn G y with hc | hc | hc
    · exact absurd hc e
    · have q2 := q
      rw [hc]
      refine JX_catch (i := 3) (pre := []) (x := ⟨0, 9, 12, 24⟩) (suf := [⟨0, 9, 15, 29⟩]) rfl (fun y hy => by cases hy) rfl (by decide) clL_24 (OL_in (T2 (List.mem_of_getElem? (i := 184) rfl)) rfl) (Or.inl ⟨dL_trainIn_12, rfl, 1, rfl, ?_⟩) (by decide) rfl
      refine J_iconst (v := nI 1) dL_trainIn_13 (by decide) ?_
      exact J_ireturn dL_trainIn_14 rfl rfl (LPo_no q2 hc (by decide) hO ho rfl)
    · have q2 := q
      rw [hc]
      refine JX_catch (i := 3) (pre := [⟨0, 9, 12, 24⟩]) (x := ⟨0, 9, 15, 29⟩) (suf := []) rfl (List.forall_mem_cons.mpr ⟨Or.inr ⟨by decide, _, clL_24, List.mem_of_getElem? (i := 15) rfl⟩, fun y hy => by cases hy⟩) rfl (by decide) clL_29 (OL_in (T3 (List.mem_of_getElem? (i := 64) rfl)) rfl) (Or.inl ⟨dL_trainIn_15, rfl, 1, rfl, ?_⟩) (by decide) rfl
      refine J_iconst (v := nI 2) dL_trainIn_16 (by decide) ?_
      exact J_ireturn dL_trainIn_17 rfl rfl (LPo_no q2 hc (by decide) hO ho rfl)

theorem c_L_reservedBy {w : Wd} {x o : Nat} {G : Gme} {g0 : Nat → Int64} (hX : RepX w x G) (hO : w.1 o = .inl (2, 1, .inr (.inl g0))) (ho : o < x ∨ x + 126 ≤ o) (y : Int32) : MC 8 mL_reservedBy 1 6 [.ref x, .int y, .ref o] w (LPo w x o [1, 5] (gQ G (onI (sNb (gS G)) y (fun i => opA (hOf (gS G) i))))) := by
  refine MC_ofH pnL rfl (fun v hv => by simp only [List.mem_cons, List.not_mem_nil, or_false] at hv; rcases hv with rfl | rfl | rfl <;> rfl) (Nat.le_of_ble_eq_true rfl) (fun E w h => RP_no E w h) ?_
  show J 8 mL_reservedBy 0 [some (.ref x), some (.int y), some (.ref o), none] [] w 1 6 _
  refine J_aload_n dL_reservedBy_0 rfl rfl ?_
  refine J_iconst (v := nI 0) dL_reservedBy_1 (by decide) ?_
  refine J_aload_n dL_reservedBy_2 rfl rfl ?_
  refine J_iload_n dL_reservedBy_3 rfl rfl ?_
  refine J_callV (mi := mL_reservedBy) (pc := 4) (kb := 0) (sb := 0) dL_reservedBy_4 YX8_reservedBy kL_59 hX.rc (c_X8_reservedBy hX y) rfl rfl (Nat.le_of_ble_eq_true rfl) (by decide) (fun v w1 q => ?_) (fun E w1 q => ?_)
  · obtain ⟨e, rfl⟩ := GXo_V q
    have hO1 := (q.1.1 _ ho).trans hO
    refine J_i2l dL_reservedBy_7 rfl ?_
    refine K_last dL_reservedBy_8 hO1 (by decide) (by decide) (fun w2 u => ?_)
    refine J_goto (tgt := 18) dL_reservedBy_9 (by decide) ?_
    refine J_iconst (v := nI 0) dL_reservedBy_18 (by decide) ?_
    exact J_ireturn dL_reservedBy_19 rfl rfl (LPo_ok q e ho u rfl)
  · obtain ⟨e, rfl⟩ := GXo_E q
    rcases lc_reservedBy G y with hc | hc | hc
    · exact absurd hc e
    · have q2 := q
      rw [hc]
      refine JX_catch (i := 3) (pre := []) (x := ⟨0, 9, 12, 24⟩) (suf := [⟨0, 9, 15, 29⟩]) rfl (fun y hy => by cases hy) rfl (by decide) clL_24 (OL_in (T2 (List.mem_of_getElem? (i := 184) rfl)) rfl) (Or.inl ⟨dL_reservedBy_12, rfl, 1, rfl, ?_⟩) (by decide) rfl
      refine J_iconst (v := nI 1) dL_reservedBy_13 (by decide) ?_
      exact J_ireturn dL_reservedBy_14 rfl rfl (LPo_no q2 hc (by decide) hO ho rfl)
    · have q2 := q
      rw [hc]
      refine JX_catch (i := 3) (pre := [⟨0, 9, 12, 24⟩]) (x := ⟨0, 9, 15, 29⟩) (suf := []) rfl (List.forall_mem_cons.mpr ⟨Or.inr ⟨by decide, _, clL_24, List.mem_of_getElem? (i := 15) rfl⟩, fun y hy => by cases hy⟩) rfl (by decide) clL_29 (OL_in (T3 (List.mem_of_getElem? (i := 64) rfl)) rfl) (Or.inl ⟨dL_reservedBy_15, rfl, 1, rfl, ?_⟩) (by decide) rfl
      refine J_iconst (v := nI 2) dL_reservedBy_16 (by decide) ?_
      exact J_ireturn dL_reservedBy_17 rfl rfl (LPo_no q2 hc (by decide) hO ho rfl)

theorem c_L_goal {w : Wd} {x o : Nat} {G : Gme} {g0 : Nat → Int64} (hX : RepX w x G) (hO : w.1 o = .inl (2, 1, .inr (.inl g0))) (ho : o < x ∨ x + 126 ≤ o) (y : Int32) : MC 8 mL_goal 1 6 [.ref x, .int y, .ref o] w (LPo w x o [1, 5] (gQ G (onI (sNt (gS G)) y (fun i => opA (sGo (gS G) i))))) := by
  refine MC_ofH pnL rfl (fun v hv => by simp only [List.mem_cons, List.not_mem_nil, or_false] at hv; rcases hv with rfl | rfl | rfl <;> rfl) (Nat.le_of_ble_eq_true rfl) (fun E w h => RP_no E w h) ?_
  show J 8 mL_goal 0 [some (.ref x), some (.int y), some (.ref o), none] [] w 1 6 _
  refine J_aload_n dL_goal_0 rfl rfl ?_
  refine J_iconst (v := nI 0) dL_goal_1 (by decide) ?_
  refine J_aload_n dL_goal_2 rfl rfl ?_
  refine J_iload_n dL_goal_3 rfl rfl ?_
  refine J_callV (mi := mL_goal) (pc := 4) (kb := 0) (sb := 0) dL_goal_4 YX8_goal kL_105 hX.rc (c_X8_goal hX y) rfl rfl (Nat.le_of_ble_eq_true rfl) (by decide) (fun v w1 q => ?_) (fun E w1 q => ?_)
  · obtain ⟨e, rfl⟩ := GXo_V q
    have hO1 := (q.1.1 _ ho).trans hO
    refine J_i2l dL_goal_7 rfl ?_
    refine K_last dL_goal_8 hO1 (by decide) (by decide) (fun w2 u => ?_)
    refine J_goto (tgt := 18) dL_goal_9 (by decide) ?_
    refine J_iconst (v := nI 0) dL_goal_18 (by decide) ?_
    exact J_ireturn dL_goal_19 rfl rfl (LPo_ok q e ho u rfl)
  · obtain ⟨e, rfl⟩ := GXo_E q
    rcases lc_goal G y with hc | hc | hc
    · exact absurd hc e
    · have q2 := q
      rw [hc]
      refine JX_catch (i := 3) (pre := []) (x := ⟨0, 9, 12, 24⟩) (suf := [⟨0, 9, 15, 29⟩]) rfl (fun y hy => by cases hy) rfl (by decide) clL_24 (OL_in (T2 (List.mem_of_getElem? (i := 184) rfl)) rfl) (Or.inl ⟨dL_goal_12, rfl, 1, rfl, ?_⟩) (by decide) rfl
      refine J_iconst (v := nI 1) dL_goal_13 (by decide) ?_
      exact J_ireturn dL_goal_14 rfl rfl (LPo_no q2 hc (by decide) hO ho rfl)
    · have q2 := q
      rw [hc]
      refine JX_catch (i := 3) (pre := [⟨0, 9, 12, 24⟩]) (x := ⟨0, 9, 15, 29⟩) (suf := []) rfl (List.forall_mem_cons.mpr ⟨Or.inr ⟨by decide, _, clL_24, List.mem_of_getElem? (i := 15) rfl⟩, fun y hy => by cases hy⟩) rfl (by decide) clL_29 (OL_in (T3 (List.mem_of_getElem? (i := 64) rfl)) rfl) (Or.inl ⟨dL_goal_15, rfl, 1, rfl, ?_⟩) (by decide) rfl
      refine J_iconst (v := nI 2) dL_goal_16 (by decide) ?_
      exact J_ireturn dL_goal_17 rfl rfl (LPo_no q2 hc (by decide) hO ho rfl)

theorem c_L_nextBlock {w : Wd} {x o : Nat} {G : Gme} {g0 : Nat → Int64} (hX : RepX w x G) (hO : w.1 o = .inl (2, 1, .inr (.inl g0))) (ho : o < x ∨ x + 126 ≤ o) (y : Int32) : MC 8 mL_nextBlock 1 6 [.ref x, .int y, .ref o] w (LPo w x o [1, 5] (gQ G (onI (sNt (gS G)) y (fun i => opA (nx (gS G) i))))) := by
  refine MC_ofH pnL rfl (fun v hv => by simp only [List.mem_cons, List.not_mem_nil, or_false] at hv; rcases hv with rfl | rfl | rfl <;> rfl) (Nat.le_of_ble_eq_true rfl) (fun E w h => RP_no E w h) ?_
  show J 8 mL_nextBlock 0 [some (.ref x), some (.int y), some (.ref o), none] [] w 1 6 _
  refine J_aload_n dL_nextBlock_0 rfl rfl ?_
  refine J_iconst (v := nI 0) dL_nextBlock_1 (by decide) ?_
  refine J_aload_n dL_nextBlock_2 rfl rfl ?_
  refine J_iload_n dL_nextBlock_3 rfl rfl ?_
  refine J_callV (mi := mL_nextBlock) (pc := 4) (kb := 0) (sb := 0) dL_nextBlock_4 YX8_nextBlock kL_72 hX.rc (c_X8_nextBlock hX y) rfl rfl (Nat.le_of_ble_eq_true rfl) (by decide) (fun v w1 q => ?_) (fun E w1 q => ?_)
  · obtain ⟨e, rfl⟩ := GXo_V q
    have hO1 := (q.1.1 _ ho).trans hO
    refine J_i2l dL_nextBlock_7 rfl ?_
    refine K_last dL_nextBlock_8 hO1 (by decide) (by decide) (fun w2 u => ?_)
    refine J_goto (tgt := 18) dL_nextBlock_9 (by decide) ?_
    refine J_iconst (v := nI 0) dL_nextBlock_18 (by decide) ?_
    exact J_ireturn dL_nextBlock_19 rfl rfl (LPo_ok q e ho u rfl)
  · obtain ⟨e, rfl⟩ := GXo_E q
    rcases lc_nextBlock G y with hc | hc | hc
    · exact absurd hc e
    · have q2 := q
      rw [hc]
      refine JX_catch (i := 3) (pre := []) (x := ⟨0, 9, 12, 24⟩) (suf := [⟨0, 9, 15, 29⟩]) rfl (fun y hy => by cases hy) rfl (by decide) clL_24 (OL_in (T2 (List.mem_of_getElem? (i := 184) rfl)) rfl) (Or.inl ⟨dL_nextBlock_12, rfl, 1, rfl, ?_⟩) (by decide) rfl
      refine J_iconst (v := nI 1) dL_nextBlock_13 (by decide) ?_
      exact J_ireturn dL_nextBlock_14 rfl rfl (LPo_no q2 hc (by decide) hO ho rfl)
    · have q2 := q
      rw [hc]
      refine JX_catch (i := 3) (pre := [⟨0, 9, 12, 24⟩]) (x := ⟨0, 9, 15, 29⟩) (suf := []) rfl (List.forall_mem_cons.mpr ⟨Or.inr ⟨by decide, _, clL_24, List.mem_of_getElem? (i := 15) rfl⟩, fun y hy => by cases hy⟩) rfl (by decide) clL_29 (OL_in (T3 (List.mem_of_getElem? (i := 64) rfl)) rfl) (Or.inl ⟨dL_nextBlock_15, rfl, 1, rfl, ?_⟩) (by decide) rfl
      refine J_iconst (v := nI 2) dL_nextBlock_16 (by decide) ?_
      exact J_ireturn dL_nextBlock_17 rfl rfl (LPo_no q2 hc (by decide) hO ho rfl)

theorem c_L_nearestCushion {w : Wd} {x o : Nat} {G : Gme} {g0 : Nat → Int64} (hX : RepX w x G) (hO : w.1 o = .inl (2, 1, .inr (.inl g0))) (ho : o < x ∨ x + 126 ≤ o) (y : Int32) : MC 8 mL_nearestCushion 1 6 [.ref x, .int y, .ref o] w (LPo w x o [1, 5] (gQ G (onI (sNb (gS G)) y (fun i => opA (nrC (gS G) i))))) := by
  refine MC_ofH pnL rfl (fun v hv => by simp only [List.mem_cons, List.not_mem_nil, or_false] at hv; rcases hv with rfl | rfl | rfl <;> rfl) (Nat.le_of_ble_eq_true rfl) (fun E w h => RP_no E w h) ?_
  show J 8 mL_nearestCushion 0 [some (.ref x), some (.int y), some (.ref o), none] [] w 1 6 _
  refine J_aload_n dL_nearestCushion_0 rfl rfl ?_
  refine J_iconst (v := nI 0) dL_nearestCushion_1 (by decide) ?_
  refine J_aload_n dL_nearestCushion_2 rfl rfl ?_
  refine J_iload_n dL_nearestCushion_3 rfl rfl ?_
  refine J_callV (mi := mL_nearestCushion) (pc := 4) (kb := 0) (sb := 0) dL_nearestCushion_4 YX8_nearestCushion kL_75 hX.rc (c_X8_nearestCushion hX y) rfl rfl (Nat.le_of_ble_eq_true rfl) (by decide) (fun v w1 q => ?_) (fun E w1 q => ?_)
  · obtain ⟨e, rfl⟩ := GXo_V q
    have hO1 := (q.1.1 _ ho).trans hO
    refine J_i2l dL_nearestCushion_7 rfl ?_
    refine K_last dL_nearestCushion_8 hO1 (by decide) (by decide) (fun w2 u => ?_)
    refine J_goto (tgt := 18) dL_nearestCushion_9 (by decide) ?_
    refine J_iconst (v := nI 0) dL_nearestCushion_18 (by decide) ?_
    exact J_ireturn dL_nearestCushion_19 rfl rfl (LPo_ok q e ho u rfl)
  · obtain ⟨e, rfl⟩ := GXo_E q
    rcases lc_nearestCushion G y with hc | hc | hc
    · exact absurd hc e
    · have q2 := q
      rw [hc]
      refine JX_catch (i := 3) (pre := []) (x := ⟨0, 9, 12, 24⟩) (suf := [⟨0, 9, 15, 29⟩]) rfl (fun y hy => by cases hy) rfl (by decide) clL_24 (OL_in (T2 (List.mem_of_getElem? (i := 184) rfl)) rfl) (Or.inl ⟨dL_nearestCushion_12, rfl, 1, rfl, ?_⟩) (by decide) rfl
      refine J_iconst (v := nI 1) dL_nearestCushion_13 (by decide) ?_
      exact J_ireturn dL_nearestCushion_14 rfl rfl (LPo_no q2 hc (by decide) hO ho rfl)
    · have q2 := q
      rw [hc]
      refine JX_catch (i := 3) (pre := [⟨0, 9, 12, 24⟩]) (x := ⟨0, 9, 15, 29⟩) (suf := []) rfl (List.forall_mem_cons.mpr ⟨Or.inr ⟨by decide, _, clL_24, List.mem_of_getElem? (i := 15) rfl⟩, fun y hy => by cases hy⟩) rfl (by decide) clL_29 (OL_in (T3 (List.mem_of_getElem? (i := 64) rfl)) rfl) (Or.inl ⟨dL_nearestCushion_15, rfl, 1, rfl, ?_⟩) (by decide) rfl
      refine J_iconst (v := nI 2) dL_nearestCushion_16 (by decide) ?_
      exact J_ireturn dL_nearestCushion_17 rfl rfl (LPo_no q2 hc (by decide) hO ho rfl)

theorem c_L_blockedBy {w : Wd} {x o : Nat} {G : Gme} {g0 : Nat → Int64} (hX : RepX w x G) (hO : w.1 o = .inl (2, 1, .inr (.inl g0))) (ho : o < x ∨ x + 126 ≤ o) (y : Int32) : MC 8 mL_blockedBy 1 6 [.ref x, .int y, .ref o] w (LPo w x o [1, 5] (gQ G (onI (sNt (gS G)) y (fun i => opA (bk (gS G) i))))) := by
  refine MC_ofH pnL rfl (fun v hv => by simp only [List.mem_cons, List.not_mem_nil, or_false] at hv; rcases hv with rfl | rfl | rfl <;> rfl) (Nat.le_of_ble_eq_true rfl) (fun E w h => RP_no E w h) ?_
  show J 8 mL_blockedBy 0 [some (.ref x), some (.int y), some (.ref o), none] [] w 1 6 _
  refine J_aload_n dL_blockedBy_0 rfl rfl ?_
  refine J_iconst (v := nI 0) dL_blockedBy_1 (by decide) ?_
  refine J_aload_n dL_blockedBy_2 rfl rfl ?_
  refine J_iload_n dL_blockedBy_3 rfl rfl ?_
  refine J_callV (mi := mL_blockedBy) (pc := 4) (kb := 0) (sb := 0) dL_blockedBy_4 YX8_blockedBy kL_117 hX.rc (c_X8_blockedBy hX y) rfl rfl (Nat.le_of_ble_eq_true rfl) (by decide) (fun v w1 q => ?_) (fun E w1 q => ?_)
  · obtain ⟨e, rfl⟩ := GXo_V q
    have hO1 := (q.1.1 _ ho).trans hO
    refine J_i2l dL_blockedBy_7 rfl ?_
    refine K_last dL_blockedBy_8 hO1 (by decide) (by decide) (fun w2 u => ?_)
    refine J_goto (tgt := 18) dL_blockedBy_9 (by decide) ?_
    refine J_iconst (v := nI 0) dL_blockedBy_18 (by decide) ?_
    exact J_ireturn dL_blockedBy_19 rfl rfl (LPo_ok q e ho u rfl)
  · obtain ⟨e, rfl⟩ := GXo_E q
    rcases lc_blockedBy G y with hc | hc | hc
    · exact absurd hc e
    · have q2 := q
      rw [hc]
      refine JX_catch (i := 3) (pre := []) (x := ⟨0, 9, 12, 24⟩) (suf := [⟨0, 9, 15, 29⟩]) rfl (fun y hy => by cases hy) rfl (by decide) clL_24 (OL_in (T2 (List.mem_of_getElem? (i := 184) rfl)) rfl) (Or.inl ⟨dL_blockedBy_12, rfl, 1, rfl, ?_⟩) (by decide) rfl
      refine J_iconst (v := nI 1) dL_blockedBy_13 (by decide) ?_
      exact J_ireturn dL_blockedBy_14 rfl rfl (LPo_no q2 hc (by decide) hO ho rfl)
    · have q2 := q
      rw [hc]
      refine JX_catch (i := 3) (pre := [⟨0, 9, 12, 24⟩]) (x := ⟨0, 9, 15, 29⟩) (suf := []) rfl (List.forall_mem_cons.mpr ⟨Or.inr ⟨by decide, _, clL_24, List.mem_of_getElem? (i := 15) rfl⟩, fun y hy => by cases hy⟩) rfl (by decide) clL_29 (OL_in (T3 (List.mem_of_getElem? (i := 64) rfl)) rfl) (Or.inl ⟨dL_blockedBy_15, rfl, 1, rfl, ?_⟩) (by decide) rfl
      refine J_iconst (v := nI 2) dL_blockedBy_16 (by decide) ?_
      exact J_ireturn dL_blockedBy_17 rfl rfl (LPo_no q2 hc (by decide) hO ho rfl)

theorem c_L_trainByPriority {w : Wd} {x o : Nat} {G : Gme} {g0 : Nat → Int64} (hX : RepX w x G) (hO : w.1 o = .inl (2, 1, .inr (.inl g0))) (ho : o < x ∨ x + 126 ≤ o) (y : Int32) : MC 8 mL_trainByPriority 1 6 [.ref x, .int y, .ref o] w (LPo w x o [5] (gQ G (opA (rkX (gS G) y)))) := by
  refine MC_ofH pnL rfl (fun v hv => by simp only [List.mem_cons, List.not_mem_nil, or_false] at hv; rcases hv with rfl | rfl | rfl <;> rfl) (Nat.le_of_ble_eq_true rfl) (fun E w h => RP_no E w h) ?_
  show J 8 mL_trainByPriority 0 [some (.ref x), some (.int y), some (.ref o), none] [] w 1 6 _
  refine J_aload_n dL_trainByPriority_0 rfl rfl ?_
  refine J_iconst (v := nI 0) dL_trainByPriority_1 (by decide) ?_
  refine J_aload_n dL_trainByPriority_2 rfl rfl ?_
  refine J_iload_n dL_trainByPriority_3 rfl rfl ?_
  refine J_callV (mi := mL_trainByPriority) (pc := 4) (kb := 0) (sb := 0) dL_trainByPriority_4 YX8_trainByPriority kL_114 hX.rc (c_X8_trainByPriority hX y) rfl rfl (Nat.le_of_ble_eq_true rfl) (by decide) (fun v w1 q => ?_) (fun E w1 q => ?_)
  · obtain ⟨e, rfl⟩ := GXo_V q
    have hO1 := (q.1.1 _ ho).trans hO
    refine J_i2l dL_trainByPriority_7 rfl ?_
    refine K_last dL_trainByPriority_8 hO1 (by decide) (by decide) (fun w2 u => ?_)
    refine J_goto (tgt := 15) dL_trainByPriority_9 (by decide) ?_
    refine J_iconst (v := nI 0) dL_trainByPriority_15 (by decide) ?_
    exact J_ireturn dL_trainByPriority_16 rfl rfl (LPo_ok q e ho u rfl)
  · obtain ⟨e, rfl⟩ := GXo_E q
    rcases lc_trainByPriority G y with hc | hc
    · exact absurd hc e
    · have q2 := q
      rw [hc]
      refine JX_catch (i := 3) (pre := []) (x := ⟨0, 9, 12, 29⟩) (suf := []) rfl (fun y hy => by cases hy) rfl (by decide) clL_29 (OL_in (T3 (List.mem_of_getElem? (i := 64) rfl)) rfl) (Or.inl ⟨dL_trainByPriority_12, rfl, 1, rfl, ?_⟩) (by decide) rfl
      refine J_iconst (v := nI 1) dL_trainByPriority_13 (by decide) ?_
      exact J_ireturn dL_trainByPriority_14 rfl rfl (LPo_no q2 hc (by decide) hO ho rfl)

theorem c_L_areLinked {w : Wd} {x o : Nat} {G : Gme} {g0 : Nat → Int64} (hX : RepX w x G) (hO : w.1 o = .inl (2, 1, .inr (.inl g0))) (ho : o < x ∨ x + 126 ≤ o) (y z : Int32) : MC 8 mL_areLinked 1 6 [.ref x, .int y, .int z, .ref o] w (LPo w x o [1] (gQ G (onB2 (gS G) y z (fun a b => (0, b2i (sLk (gS G) a b)))))) := by
  refine MC_ofH pnL rfl (fun v hv => by simp only [List.mem_cons, List.not_mem_nil, or_false] at hv; rcases hv with rfl | rfl | rfl | rfl <;> rfl) (Nat.le_of_ble_eq_true rfl) (fun E w h => RP_no E w h) ?_
  show J 8 mL_areLinked 0 [some (.ref x), some (.int y), some (.int z), some (.ref o), none] [] w 1 6 _
  refine J_aload_n dL_areLinked_0 rfl rfl ?_
  refine J_iconst (v := nI 0) dL_areLinked_1 (by decide) ?_
  refine J_aload_n dL_areLinked_2 rfl rfl ?_
  refine J_iload_n dL_areLinked_3 rfl rfl ?_
  refine J_iload_n dL_areLinked_4 rfl rfl ?_
  refine J_callV (mi := mL_areLinked) (pc := 5) (kb := 0) (sb := 0) dL_areLinked_5 YX8_areLinked kL_49 hX.rc (c_X8_areLinked hX y z) rfl rfl (Nat.le_of_ble_eq_true rfl) (by decide) (fun v w1 q => ?_) (fun E w1 q => ?_)
  · obtain ⟨e, rfl⟩ := GXo_V q
    have hO1 := (q.1.1 _ ho).trans hO
    refine J_if_eq (tgt := 15) dL_areLinked_8 (by decide) (fun h => ?_) (fun h => ?_)
    · refine J_lconst (v := Int64.ofNat 0) dL_areLinked_15 rfl ?_
      refine K_last dL_areLinked_16 hO1 (by decide) (by decide) (fun w2 u => ?_)
      refine J_goto (tgt := 24) dL_areLinked_17 (by decide) ?_
      refine J_iconst (v := nI 0) dL_areLinked_24 (by decide) ?_
      exact J_ireturn dL_areLinked_25 rfl rfl (LPo_ok q e ho u (by rw [h]; decide))
    · refine J_lconst (v := Int64.ofNat 1) dL_areLinked_11 rfl ?_
      refine J_goto (tgt := 16) dL_areLinked_12 (by decide) ?_
      refine K_last dL_areLinked_16 hO1 (by decide) (by decide) (fun w2 u => ?_)
      refine J_goto (tgt := 24) dL_areLinked_17 (by decide) ?_
      refine J_iconst (v := nI 0) dL_areLinked_24 (by decide) ?_
      exact J_ireturn dL_areLinked_25 rfl rfl (LPo_ok q e ho u (lw_b1 (lb_areLinked G y z) h))
  · obtain ⟨e, rfl⟩ := GXo_E q
    rcases lc_areLinked G y z with hc | hc
    · exact absurd hc e
    · have q2 := q
      rw [hc]
      refine JX_catch (n := 0) (i := 4) (pre := []) (x := ⟨0, 17, 20, 24⟩) (suf := []) rfl (fun y hy => by cases hy) rfl (by decide) clL_24 (OL_in (T2 (List.mem_of_getElem? (i := 184) rfl)) rfl) (Or.inr ⟨dL_areLinked_20, ?_⟩) (by decide) rfl
      refine J_iconst (v := nI 1) dL_areLinked_22 (by decide) ?_
      exact J_ireturn dL_areLinked_23 rfl rfl (LPo_no q2 hc (by decide) hO ho rfl)

theorem c_L_distance {w : Wd} {x o : Nat} {G : Gme} {g0 : Nat → Int64} (hX : RepX w x G) (hO : w.1 o = .inl (2, 1, .inr (.inl g0))) (ho : o < x ∨ x + 126 ≤ o) (y z : Int32) : MC 8 mL_distance 1 6 [.ref x, .int y, .int z, .ref o] w (LPo w x o [1, 5] (gQ G (onB2 (gS G) y z (fun a b => opA (dS (gS G) a b))))) := by
  refine MC_ofH pnL rfl (fun v hv => by simp only [List.mem_cons, List.not_mem_nil, or_false] at hv; rcases hv with rfl | rfl | rfl | rfl <;> rfl) (Nat.le_of_ble_eq_true rfl) (fun E w h => RP_no E w h) ?_
  show J 8 mL_distance 0 [some (.ref x), some (.int y), some (.int z), some (.ref o), none] [] w 1 6 _
  refine J_aload_n dL_distance_0 rfl rfl ?_
  refine J_iconst (v := nI 0) dL_distance_1 (by decide) ?_
  refine J_aload_n dL_distance_2 rfl rfl ?_
  refine J_iload_n dL_distance_3 rfl rfl ?_
  refine J_iload_n dL_distance_4 rfl rfl ?_
  refine J_callV (mi := mL_distance) (pc := 5) (kb := 0) (sb := 0) dL_distance_5 YX8_distance kL_66 hX.rc (c_X8_distance hX y z) rfl rfl (Nat.le_of_ble_eq_true rfl) (by decide) (fun v w1 q => ?_) (fun E w1 q => ?_)
  · obtain ⟨e, rfl⟩ := GXo_V q
    have hO1 := (q.1.1 _ ho).trans hO
    refine J_i2l dL_distance_8 rfl ?_
    refine K_last dL_distance_9 hO1 (by decide) (by decide) (fun w2 u => ?_)
    refine J_goto (tgt := 21) dL_distance_10 (by decide) ?_
    refine J_iconst (v := nI 0) dL_distance_21 (by decide) ?_
    exact J_ireturn dL_distance_22 rfl rfl (LPo_ok q e ho u rfl)
  · obtain ⟨e, rfl⟩ := GXo_E q
    rcases lc_distance G y z with hc | hc | hc
    · exact absurd hc e
    · have q2 := q
      rw [hc]
      refine JX_catch (n := 0) (i := 4) (pre := []) (x := ⟨0, 10, 13, 24⟩) (suf := [⟨0, 10, 17, 29⟩]) rfl (fun y hy => by cases hy) rfl (by decide) clL_24 (OL_in (T2 (List.mem_of_getElem? (i := 184) rfl)) rfl) (Or.inr ⟨dL_distance_13, ?_⟩) (by decide) rfl
      refine J_iconst (v := nI 1) dL_distance_15 (by decide) ?_
      exact J_ireturn dL_distance_16 rfl rfl (LPo_no q2 hc (by decide) hO ho rfl)
    · have q2 := q
      rw [hc]
      refine JX_catch (n := 0) (i := 4) (pre := [⟨0, 10, 13, 24⟩]) (x := ⟨0, 10, 17, 29⟩) (suf := []) rfl (List.forall_mem_cons.mpr ⟨Or.inr ⟨by decide, _, clL_24, List.mem_of_getElem? (i := 15) rfl⟩, fun y hy => by cases hy⟩) rfl (by decide) clL_29 (OL_in (T3 (List.mem_of_getElem? (i := 64) rfl)) rfl) (Or.inr ⟨dL_distance_17, ?_⟩) (by decide) rfl
      refine J_iconst (v := nI 2) dL_distance_19 (by decide) ?_
      exact J_ireturn dL_distance_20 rfl rfl (LPo_no q2 hc (by decide) hO ho rfl)

theorem c_L_distanceByRounds {w : Wd} {x o : Nat} {G : Gme} {g0 : Nat → Int64} (hX : RepX w x G) (hO : w.1 o = .inl (2, 1, .inr (.inl g0))) (ho : o < x ∨ x + 126 ≤ o) (y z : Int32) : MC 8 mL_distanceByRounds 1 6 [.ref x, .int y, .int z, .ref o] w (LPo w x o [1, 5] (gQ G (onB2 (gS G) y z (fun a b => opA (dS (gS G) a b))))) := by
  refine MC_ofH pnL rfl (fun v hv => by simp only [List.mem_cons, List.not_mem_nil, or_false] at hv; rcases hv with rfl | rfl | rfl | rfl <;> rfl) (Nat.le_of_ble_eq_true rfl) (fun E w h => RP_no E w h) ?_
  show J 8 mL_distanceByRounds 0 [some (.ref x), some (.int y), some (.int z), some (.ref o), none] [] w 1 6 _
  refine J_aload_n dL_distanceByRounds_0 rfl rfl ?_
  refine J_iconst (v := nI 0) dL_distanceByRounds_1 (by decide) ?_
  refine J_aload_n dL_distanceByRounds_2 rfl rfl ?_
  refine J_iload_n dL_distanceByRounds_3 rfl rfl ?_
  refine J_iload_n dL_distanceByRounds_4 rfl rfl ?_
  refine J_callV (mi := mL_distanceByRounds) (pc := 5) (kb := 0) (sb := 0) dL_distanceByRounds_5 YX8_distanceByRounds kL_69 hX.rc (c_X8_distanceByRounds hX y z) rfl rfl (Nat.le_of_ble_eq_true rfl) (by decide) (fun v w1 q => ?_) (fun E w1 q => ?_)
  · obtain ⟨e, rfl⟩ := GXo_V q
    have hO1 := (q.1.1 _ ho).trans hO
    refine J_i2l dL_distanceByRounds_8 rfl ?_
    refine K_last dL_distanceByRounds_9 hO1 (by decide) (by decide) (fun w2 u => ?_)
    refine J_goto (tgt := 21) dL_distanceByRounds_10 (by decide) ?_
    refine J_iconst (v := nI 0) dL_distanceByRounds_21 (by decide) ?_
    exact J_ireturn dL_distanceByRounds_22 rfl rfl (LPo_ok q e ho u rfl)
  · obtain ⟨e, rfl⟩ := GXo_E q
    rcases lc_distanceByRounds G y z with hc | hc | hc
    · exact absurd hc e
    · have q2 := q
      rw [hc]
      refine JX_catch (n := 0) (i := 4) (pre := []) (x := ⟨0, 10, 13, 24⟩) (suf := [⟨0, 10, 17, 29⟩]) rfl (fun y hy => by cases hy) rfl (by decide) clL_24 (OL_in (T2 (List.mem_of_getElem? (i := 184) rfl)) rfl) (Or.inr ⟨dL_distanceByRounds_13, ?_⟩) (by decide) rfl
      refine J_iconst (v := nI 1) dL_distanceByRounds_15 (by decide) ?_
      exact J_ireturn dL_distanceByRounds_16 rfl rfl (LPo_no q2 hc (by decide) hO ho rfl)
    · have q2 := q
      rw [hc]
      refine JX_catch (n := 0) (i := 4) (pre := [⟨0, 10, 13, 24⟩]) (x := ⟨0, 10, 17, 29⟩) (suf := []) rfl (List.forall_mem_cons.mpr ⟨Or.inr ⟨by decide, _, clL_24, List.mem_of_getElem? (i := 15) rfl⟩, fun y hy => by cases hy⟩) rfl (by decide) clL_29 (OL_in (T3 (List.mem_of_getElem? (i := 64) rfl)) rfl) (Or.inr ⟨dL_distanceByRounds_17, ?_⟩) (by decide) rfl
      refine J_iconst (v := nI 2) dL_distanceByRounds_19 (by decide) ?_
      exact J_ireturn dL_distanceByRounds_20 rfl rfl (LPo_no q2 hc (by decide) hO ho rfl)

end JHELP

/-! THE LAW: its helpers -/
section JHELP
theorem c_L_rescue {w : Wd} {x o : Nat} {G : Gme} {g0 : Nat → Int64} (hX : RepX w x G) (hO : w.1 o = .inl (2, 1, .inr (.inl g0))) (ho : o < x ∨ x + 126 ≤ o) (y : Int32) : MC 8 mL_rescue 1 6 [.ref x, .int y, .ref o] w (LPo w x o [1, 3] (gMut G (oResc (gS G) y))) := by
  refine MC_ofH pnL rfl (fun v hv => by simp only [List.mem_cons, List.not_mem_nil, or_false] at hv; rcases hv with rfl | rfl | rfl <;> rfl) (Nat.le_of_ble_eq_true rfl) (fun E w h => RP_no E w h) ?_
  show J 8 mL_rescue 0 [some (.ref x), some (.int y), some (.ref o), none] [] w 1 6 _
  refine J_aload_n dL_rescue_0 rfl rfl ?_
  refine J_iconst (v := nI 0) dL_rescue_1 (by decide) ?_
  refine J_aload_n dL_rescue_2 rfl rfl ?_
  refine J_iload_n dL_rescue_3 rfl rfl ?_
  refine J_callV (mi := mL_rescue) (pc := 4) (kb := 0) (sb := 0) dL_rescue_4 YX8_rescue kL_93 hX.rc (c_X8_rescue hX y) rfl rfl (Nat.le_of_ble_eq_true rfl) (by decide) (fun v w1 q => ?_) (fun E w1 q => ?_)
  · obtain ⟨e, rfl⟩ := GXo_V q
    have hO1 := (q.1.1 _ ho).trans hO
    refine J_i2l dL_rescue_7 rfl ?_
    refine K_last dL_rescue_8 hO1 (by decide) (by decide) (fun w2 u => ?_)
    refine J_goto (tgt := 18) dL_rescue_9 (by decide) ?_
    refine J_iconst (v := nI 0) dL_rescue_18 (by decide) ?_
    exact J_ireturn dL_rescue_19 rfl rfl (LPo_ok q e ho u rfl)
  · obtain ⟨e, rfl⟩ := GXo_E q
    rcases lc_rescue G y with hc | hc | hc
    · exact absurd hc e
    · have q2 := q
      rw [hc]
      refine JX_catch (i := 3) (pre := []) (x := ⟨0, 9, 12, 24⟩) (suf := [⟨0, 9, 15, 15⟩]) rfl (fun y hy => by cases hy) rfl (by decide) clL_24 (OL_in (T2 (List.mem_of_getElem? (i := 184) rfl)) rfl) (Or.inl ⟨dL_rescue_12, rfl, 1, rfl, ?_⟩) (by decide) rfl
      refine J_iconst (v := nI 1) dL_rescue_13 (by decide) ?_
      exact J_ireturn dL_rescue_14 rfl rfl (LPo_no q2 hc (by decide) hO ho rfl)
    · have q2 := q
      rw [hc]
      refine JX_catch (i := 3) (pre := [⟨0, 9, 12, 24⟩]) (x := ⟨0, 9, 15, 15⟩) (suf := []) rfl (List.forall_mem_cons.mpr ⟨Or.inr ⟨by decide, _, clL_24, List.mem_of_getElem? (i := 13) rfl⟩, fun y hy => by cases hy⟩) rfl (by decide) clL_15 (OL_in (T3 (List.mem_of_getElem? (i := 32) rfl)) rfl) (Or.inl ⟨dL_rescue_15, rfl, 1, rfl, ?_⟩) (by decide) rfl
      refine J_iconst (v := nI 2) dL_rescue_16 (by decide) ?_
      exact J_ireturn dL_rescue_17 rfl rfl (LPo_no q2 hc (by decide) hO ho rfl)

theorem c_L_passTicks {w : Wd} {x o : Nat} {G : Gme} {g0 : Nat → Int64} (hX : RepX w x G) (hO : w.1 o = .inl (2, 1, .inr (.inl g0))) (ho : o < x ∨ x + 126 ≤ o) (y : Int32) : MC 8 mL_passTicks 1 6 [.ref x, .int y, .ref o] w (LPo w x o [2] (gMut G (oTick (gS G) y))) := by
  refine MC_ofH pnL rfl (fun v hv => by simp only [List.mem_cons, List.not_mem_nil, or_false] at hv; rcases hv with rfl | rfl | rfl <;> rfl) (Nat.le_of_ble_eq_true rfl) (fun E w h => RP_no E w h) ?_
  show J 8 mL_passTicks 0 [some (.ref x), some (.int y), some (.ref o), none] [] w 1 6 _
  refine J_aload_n dL_passTicks_0 rfl rfl ?_
  refine J_iconst (v := nI 0) dL_passTicks_1 (by decide) ?_
  refine J_aload_n dL_passTicks_2 rfl rfl ?_
  refine J_iload_n dL_passTicks_3 rfl rfl ?_
  refine J_callV (mi := mL_passTicks) (pc := 4) (kb := 0) (sb := 0) dL_passTicks_4 YX8_passTicks kL_120 hX.rc (c_X8_passTicks hX y) rfl rfl (Nat.le_of_ble_eq_true rfl) (by decide) (fun v w1 q => ?_) (fun E w1 q => ?_)
  · obtain ⟨e, rfl⟩ := GXo_V q
    have hO1 := (q.1.1 _ ho).trans hO
    refine J_i2l dL_passTicks_7 rfl ?_
    refine K_last dL_passTicks_8 hO1 (by decide) (by decide) (fun w2 u => ?_)
    refine J_goto (tgt := 15) dL_passTicks_9 (by decide) ?_
    refine J_iconst (v := nI 0) dL_passTicks_15 (by decide) ?_
    exact J_ireturn dL_passTicks_16 rfl rfl (LPo_ok q e ho u rfl)
  · obtain ⟨e, rfl⟩ := GXo_E q
    rcases lc_passTicks G y with hc | hc
    · exact absurd hc e
    · have q2 := q
      rw [hc]
      refine JX_catch (i := 3) (pre := []) (x := ⟨0, 9, 12, 13⟩) (suf := []) rfl (fun y hy => by cases hy) rfl (by decide) clL_13 (OL_in (T3 (List.mem_of_getElem? (i := 16) rfl)) rfl) (Or.inl ⟨dL_passTicks_12, rfl, 1, rfl, ?_⟩) (by decide) rfl
      refine J_iconst (v := nI 1) dL_passTicks_13 (by decide) ?_
      exact J_ireturn dL_passTicks_14 rfl rfl (LPo_no q2 hc (by decide) hO ho rfl)

theorem c_L_length {w : Wd} {x o : Nat} {G : Gme} {g0 : Nat → Int64} (hX : RepX w x G) (hO : w.1 o = .inl (2, 1, .inr (.inl g0))) (ho : o < x ∨ x + 126 ≤ o) (y : Int32) : MC 8 mL_length 1 6 [.ref x, .int y, .ref o] w (LPo w x o [1] (gQ G (onI (sNb (gS G)) y (fun i => (0, nI (sLen (gS G) i)))))) := by
  refine MC_ofH pnL rfl (fun v hv => by simp only [List.mem_cons, List.not_mem_nil, or_false] at hv; rcases hv with rfl | rfl | rfl <;> rfl) (Nat.le_of_ble_eq_true rfl) (fun E w h => RP_no E w h) ?_
  show J 8 mL_length 0 [some (.ref x), some (.int y), some (.ref o), none] [] w 1 6 _
  refine J_aload_n dL_length_0 rfl rfl ?_
  refine J_iconst (v := nI 0) dL_length_1 (by decide) ?_
  refine J_aload_n dL_length_2 rfl rfl ?_
  refine J_iload_n dL_length_3 rfl rfl ?_
  refine J_callV (mi := mL_length) (pc := 4) (kb := 0) (sb := 0) dL_length_4 YX8_length kL_39 hX.rc (c_X8_length hX y) rfl rfl (Nat.le_of_ble_eq_true rfl) (by decide) (fun v w1 q => ?_) (fun E w1 q => ?_)
  · obtain ⟨e, rfl⟩ := GXo_V q
    have hO1 := (q.1.1 _ ho).trans hO
    refine J_i2l dL_length_7 rfl ?_
    refine K_last dL_length_8 hO1 (by decide) (by decide) (fun w2 u => ?_)
    refine J_goto (tgt := 15) dL_length_9 (by decide) ?_
    refine J_iconst (v := nI 0) dL_length_15 (by decide) ?_
    exact J_ireturn dL_length_16 rfl rfl (LPo_ok q e ho u rfl)
  · obtain ⟨e, rfl⟩ := GXo_E q
    rcases lc_length G y with hc | hc
    · exact absurd hc e
    · have q2 := q
      rw [hc]
      refine JX_catch (i := 3) (pre := []) (x := ⟨0, 9, 12, 24⟩) (suf := []) rfl (fun y hy => by cases hy) rfl (by decide) clL_24 (OL_in (T2 (List.mem_of_getElem? (i := 184) rfl)) rfl) (Or.inl ⟨dL_length_12, rfl, 1, rfl, ?_⟩) (by decide) rfl
      refine J_iconst (v := nI 1) dL_length_13 (by decide) ?_
      exact J_ireturn dL_length_14 rfl rfl (LPo_no q2 hc (by decide) hO ho rfl)

theorem c_L_degree {w : Wd} {x o : Nat} {G : Gme} {g0 : Nat → Int64} (hX : RepX w x G) (hO : w.1 o = .inl (2, 1, .inr (.inl g0))) (ho : o < x ∨ x + 126 ≤ o) (y : Int32) : MC 8 mL_degree 1 6 [.ref x, .int y, .ref o] w (LPo w x o [1] (gQ G (onI (sNb (gS G)) y (fun i => (0, nI (cnt (sNb (gS G)) (sLk (gS G) i))))))) := by
  refine MC_ofH pnL rfl (fun v hv => by simp only [List.mem_cons, List.not_mem_nil, or_false] at hv; rcases hv with rfl | rfl | rfl <;> rfl) (Nat.le_of_ble_eq_true rfl) (fun E w h => RP_no E w h) ?_
  show J 8 mL_degree 0 [some (.ref x), some (.int y), some (.ref o), none] [] w 1 6 _
  refine J_aload_n dL_degree_0 rfl rfl ?_
  refine J_iconst (v := nI 0) dL_degree_1 (by decide) ?_
  refine J_aload_n dL_degree_2 rfl rfl ?_
  refine J_iload_n dL_degree_3 rfl rfl ?_
  refine J_callV (mi := mL_degree) (pc := 4) (kb := 0) (sb := 0) dL_degree_4 YX8_degree kL_53 hX.rc (c_X8_degree hX y) rfl rfl (Nat.le_of_ble_eq_true rfl) (by decide) (fun v w1 q => ?_) (fun E w1 q => ?_)
  · obtain ⟨e, rfl⟩ := GXo_V q
    have hO1 := (q.1.1 _ ho).trans hO
    refine J_i2l dL_degree_7 rfl ?_
    refine K_last dL_degree_8 hO1 (by decide) (by decide) (fun w2 u => ?_)
    refine J_goto (tgt := 15) dL_degree_9 (by decide) ?_
    refine J_iconst (v := nI 0) dL_degree_15 (by decide) ?_
    exact J_ireturn dL_degree_16 rfl rfl (LPo_ok q e ho u rfl)
  · obtain ⟨e, rfl⟩ := GXo_E q
    rcases lc_degree G y with hc | hc
    · exact absurd hc e
    · have q2 := q
      rw [hc]
      refine JX_catch (i := 3) (pre := []) (x := ⟨0, 9, 12, 24⟩) (suf := []) rfl (fun y hy => by cases hy) rfl (by decide) clL_24 (OL_in (T2 (List.mem_of_getElem? (i := 184) rfl)) rfl) (Or.inl ⟨dL_degree_12, rfl, 1, rfl, ?_⟩) (by decide) rfl
      refine J_iconst (v := nI 1) dL_degree_13 (by decide) ?_
      exact J_ireturn dL_degree_14 rfl rfl (LPo_no q2 hc (by decide) hO ho rfl)

theorem c_L_signal {w : Wd} {x o : Nat} {G : Gme} {g0 : Nat → Int64} (hX : RepX w x G) (hO : w.1 o = .inl (2, 1, .inr (.inl g0))) (ho : o < x ∨ x + 126 ≤ o) (y : Int32) : MC 8 mL_signal 1 6 [.ref x, .int y, .ref o] w (LPo w x o [1] (gQ G (onI (sNb (gS G)) y (fun i => (0, nI (sgn (gS G) i)))))) := by
  refine MC_ofH pnL rfl (fun v hv => by simp only [List.mem_cons, List.not_mem_nil, or_false] at hv; rcases hv with rfl | rfl | rfl <;> rfl) (Nat.le_of_ble_eq_true rfl) (fun E w h => RP_no E w h) ?_
  show J 8 mL_signal 0 [some (.ref x), some (.int y), some (.ref o), none] [] w 1 6 _
  refine J_aload_n dL_signal_0 rfl rfl ?_
  refine J_iconst (v := nI 0) dL_signal_1 (by decide) ?_
  refine J_aload_n dL_signal_2 rfl rfl ?_
  refine J_iload_n dL_signal_3 rfl rfl ?_
  refine J_callV (mi := mL_signal) (pc := 4) (kb := 0) (sb := 0) dL_signal_4 YX8_signal kL_62 hX.rc (c_X8_signal hX y) rfl rfl (Nat.le_of_ble_eq_true rfl) (by decide) (fun v w1 q => ?_) (fun E w1 q => ?_)
  · obtain ⟨e, rfl⟩ := GXo_V q
    have hO1 := (q.1.1 _ ho).trans hO
    refine J_i2l dL_signal_7 rfl ?_
    refine K_last dL_signal_8 hO1 (by decide) (by decide) (fun w2 u => ?_)
    refine J_goto (tgt := 15) dL_signal_9 (by decide) ?_
    refine J_iconst (v := nI 0) dL_signal_15 (by decide) ?_
    exact J_ireturn dL_signal_16 rfl rfl (LPo_ok q e ho u rfl)
  · obtain ⟨e, rfl⟩ := GXo_E q
    rcases lc_signal G y with hc | hc
    · exact absurd hc e
    · have q2 := q
      rw [hc]
      refine JX_catch (i := 3) (pre := []) (x := ⟨0, 9, 12, 24⟩) (suf := []) rfl (fun y hy => by cases hy) rfl (by decide) clL_24 (OL_in (T2 (List.mem_of_getElem? (i := 184) rfl)) rfl) (Or.inl ⟨dL_signal_12, rfl, 1, rfl, ?_⟩) (by decide) rfl
      refine J_iconst (v := nI 1) dL_signal_13 (by decide) ?_
      exact J_ireturn dL_signal_14 rfl rfl (LPo_no q2 hc (by decide) hO ho rfl)

theorem c_L_blockOf {w : Wd} {x o : Nat} {G : Gme} {g0 : Nat → Int64} (hX : RepX w x G) (hO : w.1 o = .inl (2, 1, .inr (.inl g0))) (ho : o < x ∨ x + 126 ≤ o) (y : Int32) : MC 8 mL_blockOf 1 6 [.ref x, .int y, .ref o] w (LPo w x o [1] (gQ G (onI (sNt (gS G)) y (fun i => (0, nI (sPl (gS G) i)))))) := by
  refine MC_ofH pnL rfl (fun v hv => by simp only [List.mem_cons, List.not_mem_nil, or_false] at hv; rcases hv with rfl | rfl | rfl <;> rfl) (Nat.le_of_ble_eq_true rfl) (fun E w h => RP_no E w h) ?_
  show J 8 mL_blockOf 0 [some (.ref x), some (.int y), some (.ref o), none] [] w 1 6 _
  refine J_aload_n dL_blockOf_0 rfl rfl ?_
  refine J_iconst (v := nI 0) dL_blockOf_1 (by decide) ?_
  refine J_aload_n dL_blockOf_2 rfl rfl ?_
  refine J_iload_n dL_blockOf_3 rfl rfl ?_
  refine J_callV (mi := mL_blockOf) (pc := 4) (kb := 0) (sb := 0) dL_blockOf_4 YX8_blockOf kL_96 hX.rc (c_X8_blockOf hX y) rfl rfl (Nat.le_of_ble_eq_true rfl) (by decide) (fun v w1 q => ?_) (fun E w1 q => ?_)
  · obtain ⟨e, rfl⟩ := GXo_V q
    have hO1 := (q.1.1 _ ho).trans hO
    refine J_i2l dL_blockOf_7 rfl ?_
    refine K_last dL_blockOf_8 hO1 (by decide) (by decide) (fun w2 u => ?_)
    refine J_goto (tgt := 15) dL_blockOf_9 (by decide) ?_
    refine J_iconst (v := nI 0) dL_blockOf_15 (by decide) ?_
    exact J_ireturn dL_blockOf_16 rfl rfl (LPo_ok q e ho u rfl)
  · obtain ⟨e, rfl⟩ := GXo_E q
    rcases lc_blockOf G y with hc | hc
    · exact absurd hc e
    · have q2 := q
      rw [hc]
      refine JX_catch (i := 3) (pre := []) (x := ⟨0, 9, 12, 24⟩) (suf := []) rfl (fun y hy => by cases hy) rfl (by decide) clL_24 (OL_in (T2 (List.mem_of_getElem? (i := 184) rfl)) rfl) (Or.inl ⟨dL_blockOf_12, rfl, 1, rfl, ?_⟩) (by decide) rfl
      refine J_iconst (v := nI 1) dL_blockOf_13 (by decide) ?_
      exact J_ireturn dL_blockOf_14 rfl rfl (LPo_no q2 hc (by decide) hO ho rfl)

theorem c_L_priority {w : Wd} {x o : Nat} {G : Gme} {g0 : Nat → Int64} (hX : RepX w x G) (hO : w.1 o = .inl (2, 1, .inr (.inl g0))) (ho : o < x ∨ x + 126 ≤ o) (y : Int32) : MC 8 mL_priority 1 6 [.ref x, .int y, .ref o] w (LPo w x o [1] (gQ G (onI (sNt (gS G)) y (fun i => (0, nI (sPr (gS G) i)))))) := by
  refine MC_ofH pnL rfl (fun v hv => by simp only [List.mem_cons, List.not_mem_nil, or_false] at hv; rcases hv with rfl | rfl | rfl <;> rfl) (Nat.le_of_ble_eq_true rfl) (fun E w h => RP_no E w h) ?_
  show J 8 mL_priority 0 [some (.ref x), some (.int y), some (.ref o), none] [] w 1 6 _
  refine J_aload_n dL_priority_0 rfl rfl ?_
  refine J_iconst (v := nI 0) dL_priority_1 (by decide) ?_
  refine J_aload_n dL_priority_2 rfl rfl ?_
  refine J_iload_n dL_priority_3 rfl rfl ?_
  refine J_callV (mi := mL_priority) (pc := 4) (kb := 0) (sb := 0) dL_priority_4 YX8_priority kL_99 hX.rc (c_X8_priority hX y) rfl rfl (Nat.le_of_ble_eq_true rfl) (by decide) (fun v w1 q => ?_) (fun E w1 q => ?_)
  · obtain ⟨e, rfl⟩ := GXo_V q
    have hO1 := (q.1.1 _ ho).trans hO
    refine J_i2l dL_priority_7 rfl ?_
    refine K_last dL_priority_8 hO1 (by decide) (by decide) (fun w2 u => ?_)
    refine J_goto (tgt := 15) dL_priority_9 (by decide) ?_
    refine J_iconst (v := nI 0) dL_priority_15 (by decide) ?_
    exact J_ireturn dL_priority_16 rfl rfl (LPo_ok q e ho u rfl)
  · obtain ⟨e, rfl⟩ := GXo_E q
    rcases lc_priority G y with hc | hc
    · exact absurd hc e
    · have q2 := q
      rw [hc]
      refine JX_catch (i := 3) (pre := []) (x := ⟨0, 9, 12, 24⟩) (suf := []) rfl (fun y hy => by cases hy) rfl (by decide) clL_24 (OL_in (T2 (List.mem_of_getElem? (i := 184) rfl)) rfl) (Or.inl ⟨dL_priority_12, rfl, 1, rfl, ?_⟩) (by decide) rfl
      refine J_iconst (v := nI 1) dL_priority_13 (by decide) ?_
      exact J_ireturn dL_priority_14 rfl rfl (LPo_no q2 hc (by decide) hO ho rfl)

theorem c_L_remainingTicks {w : Wd} {x o : Nat} {G : Gme} {g0 : Nat → Int64} (hX : RepX w x G) (hO : w.1 o = .inl (2, 1, .inr (.inl g0))) (ho : o < x ∨ x + 126 ≤ o) (y : Int32) : MC 8 mL_remainingTicks 1 6 [.ref x, .int y, .ref o] w (LPo w x o [1] (gQ G (onI (sNt (gS G)) y (fun i => (0, nI (sRe (gS G) i)))))) := by
  refine MC_ofH pnL rfl (fun v hv => by simp only [List.mem_cons, List.not_mem_nil, or_false] at hv; rcases hv with rfl | rfl | rfl <;> rfl) (Nat.le_of_ble_eq_true rfl) (fun E w h => RP_no E w h) ?_
  show J 8 mL_remainingTicks 0 [some (.ref x), some (.int y), some (.ref o), none] [] w 1 6 _
  refine J_aload_n dL_remainingTicks_0 rfl rfl ?_
  refine J_iconst (v := nI 0) dL_remainingTicks_1 (by decide) ?_
  refine J_aload_n dL_remainingTicks_2 rfl rfl ?_
  refine J_iload_n dL_remainingTicks_3 rfl rfl ?_
  refine J_callV (mi := mL_remainingTicks) (pc := 4) (kb := 0) (sb := 0) dL_remainingTicks_4 YX8_remainingTicks kL_102 hX.rc (c_X8_remainingTicks hX y) rfl rfl (Nat.le_of_ble_eq_true rfl) (by decide) (fun v w1 q => ?_) (fun E w1 q => ?_)
  · obtain ⟨e, rfl⟩ := GXo_V q
    have hO1 := (q.1.1 _ ho).trans hO
    refine J_i2l dL_remainingTicks_7 rfl ?_
    refine K_last dL_remainingTicks_8 hO1 (by decide) (by decide) (fun w2 u => ?_)
    refine J_goto (tgt := 15) dL_remainingTicks_9 (by decide) ?_
    refine J_iconst (v := nI 0) dL_remainingTicks_15 (by decide) ?_
    exact J_ireturn dL_remainingTicks_16 rfl rfl (LPo_ok q e ho u rfl)
  · obtain ⟨e, rfl⟩ := GXo_E q
    rcases lc_remainingTicks G y with hc | hc
    · exact absurd hc e
    · have q2 := q
      rw [hc]
      refine JX_catch (i := 3) (pre := []) (x := ⟨0, 9, 12, 24⟩) (suf := []) rfl (fun y hy => by cases hy) rfl (by decide) clL_24 (OL_in (T2 (List.mem_of_getElem? (i := 184) rfl)) rfl) (Or.inl ⟨dL_remainingTicks_12, rfl, 1, rfl, ?_⟩) (by decide) rfl
      refine J_iconst (v := nI 1) dL_remainingTicks_13 (by decide) ?_
      exact J_ireturn dL_remainingTicks_14 rfl rfl (LPo_no q2 hc (by decide) hO ho rfl)

theorem c_L_waits {w : Wd} {x o : Nat} {G : Gme} {g0 : Nat → Int64} (hX : RepX w x G) (hO : w.1 o = .inl (2, 1, .inr (.inl g0))) (ho : o < x ∨ x + 126 ≤ o) (y : Int32) : MC 8 mL_waits 1 6 [.ref x, .int y, .ref o] w (LPo w x o [1] (gQ G (onI (sNt (gS G)) y (fun i => (0, sWa (gS G) i))))) := by
  refine MC_ofH pnL rfl (fun v hv => by simp only [List.mem_cons, List.not_mem_nil, or_false] at hv; rcases hv with rfl | rfl | rfl <;> rfl) (Nat.le_of_ble_eq_true rfl) (fun E w h => RP_no E w h) ?_
  show J 8 mL_waits 0 [some (.ref x), some (.int y), some (.ref o), none] [] w 1 6 _
  refine J_aload_n dL_waits_0 rfl rfl ?_
  refine J_iconst (v := nI 0) dL_waits_1 (by decide) ?_
  refine J_aload_n dL_waits_2 rfl rfl ?_
  refine J_iload_n dL_waits_3 rfl rfl ?_
  refine J_callV (mi := mL_waits) (pc := 4) (kb := 0) (sb := 0) dL_waits_4 YX8_waits kL_111 hX.rc (c_X8_waits hX y) rfl rfl (Nat.le_of_ble_eq_true rfl) (by decide) (fun v w1 q => ?_) (fun E w1 q => ?_)
  · obtain ⟨e, rfl⟩ := GXo_V q
    have hO1 := (q.1.1 _ ho).trans hO
    refine J_i2l dL_waits_7 rfl ?_
    refine K_last dL_waits_8 hO1 (by decide) (by decide) (fun w2 u => ?_)
    refine J_goto (tgt := 15) dL_waits_9 (by decide) ?_
    refine J_iconst (v := nI 0) dL_waits_15 (by decide) ?_
    exact J_ireturn dL_waits_16 rfl rfl (LPo_ok q e ho u rfl)
  · obtain ⟨e, rfl⟩ := GXo_E q
    rcases lc_waits G y with hc | hc
    · exact absurd hc e
    · have q2 := q
      rw [hc]
      refine JX_catch (i := 3) (pre := []) (x := ⟨0, 9, 12, 24⟩) (suf := []) rfl (fun y hy => by cases hy) rfl (by decide) clL_24 (OL_in (T2 (List.mem_of_getElem? (i := 184) rfl)) rfl) (Or.inl ⟨dL_waits_12, rfl, 1, rfl, ?_⟩) (by decide) rfl
      refine J_iconst (v := nI 1) dL_waits_13 (by decide) ?_
      exact J_ireturn dL_waits_14 rfl rfl (LPo_no q2 hc (by decide) hO ho rfl)

theorem c_L_isCushion {w : Wd} {x o : Nat} {G : Gme} {g0 : Nat → Int64} (hX : RepX w x G) (hO : w.1 o = .inl (2, 1, .inr (.inl g0))) (ho : o < x ∨ x + 126 ≤ o) (y : Int32) : MC 8 mL_isCushion 1 6 [.ref x, .int y, .ref o] w (LPo w x o [1] (gQ G (onI (sNb (gS G)) y (fun i => (0, b2i (sCu (gS G) i)))))) := by
  refine MC_ofH pnL rfl (fun v hv => by simp only [List.mem_cons, List.not_mem_nil, or_false] at hv; rcases hv with rfl | rfl | rfl <;> rfl) (Nat.le_of_ble_eq_true rfl) (fun E w h => RP_no E w h) ?_
  show J 8 mL_isCushion 0 [some (.ref x), some (.int y), some (.ref o), none] [] w 1 6 _
  refine J_aload_n dL_isCushion_0 rfl rfl ?_
  refine J_iconst (v := nI 0) dL_isCushion_1 (by decide) ?_
  refine J_aload_n dL_isCushion_2 rfl rfl ?_
  refine J_iload_n dL_isCushion_3 rfl rfl ?_
  refine J_callV (mi := mL_isCushion) (pc := 4) (kb := 0) (sb := 0) dL_isCushion_4 YX8_isCushion kL_42 hX.rc (c_X8_isCushion hX y) rfl rfl (Nat.le_of_ble_eq_true rfl) (by decide) (fun v w1 q => ?_) (fun E w1 q => ?_)
  · obtain ⟨e, rfl⟩ := GXo_V q
    have hO1 := (q.1.1 _ ho).trans hO
    refine J_if_eq (tgt := 14) dL_isCushion_7 (by decide) (fun h => ?_) (fun h => ?_)
    · refine J_lconst (v := Int64.ofNat 0) dL_isCushion_14 rfl ?_
      refine K_last dL_isCushion_15 hO1 (by decide) (by decide) (fun w2 u => ?_)
      refine J_goto (tgt := 22) dL_isCushion_16 (by decide) ?_
      refine J_iconst (v := nI 0) dL_isCushion_22 (by decide) ?_
      exact J_ireturn dL_isCushion_23 rfl rfl (LPo_ok q e ho u (by rw [h]; decide))
    · refine J_lconst (v := Int64.ofNat 1) dL_isCushion_10 rfl ?_
      refine J_goto (tgt := 15) dL_isCushion_11 (by decide) ?_
      refine K_last dL_isCushion_15 hO1 (by decide) (by decide) (fun w2 u => ?_)
      refine J_goto (tgt := 22) dL_isCushion_16 (by decide) ?_
      refine J_iconst (v := nI 0) dL_isCushion_22 (by decide) ?_
      exact J_ireturn dL_isCushion_23 rfl rfl (LPo_ok q e ho u (lw_b1 (lb_isCushion G y) h))
  · obtain ⟨e, rfl⟩ := GXo_E q
    rcases lc_isCushion G y with hc | hc
    · exact absurd hc e
    · have q2 := q
      rw [hc]
      refine JX_catch (i := 3) (pre := []) (x := ⟨0, 16, 19, 24⟩) (suf := []) rfl (fun y hy => by cases hy) rfl (by decide) clL_24 (OL_in (T2 (List.mem_of_getElem? (i := 184) rfl)) rfl) (Or.inl ⟨dL_isCushion_19, rfl, 1, rfl, ?_⟩) (by decide) rfl
      refine J_iconst (v := nI 1) dL_isCushion_20 (by decide) ?_
      exact J_ireturn dL_isCushion_21 rfl rfl (LPo_no q2 hc (by decide) hO ho rfl)

theorem c_L_hasCat {w : Wd} {x o : Nat} {G : Gme} {g0 : Nat → Int64} (hX : RepX w x G) (hO : w.1 o = .inl (2, 1, .inr (.inl g0))) (ho : o < x ∨ x + 126 ≤ o) (y : Int32) : MC 8 mL_hasCat 1 6 [.ref x, .int y, .ref o] w (LPo w x o [1] (gQ G (onI (sNb (gS G)) y (fun i => (0, b2i (sCa (gS G) i)))))) := by
  refine MC_ofH pnL rfl (fun v hv => by simp only [List.mem_cons, List.not_mem_nil, or_false] at hv; rcases hv with rfl | rfl | rfl <;> rfl) (Nat.le_of_ble_eq_true rfl) (fun E w h => RP_no E w h) ?_
  show J 8 mL_hasCat 0 [some (.ref x), some (.int y), some (.ref o), none] [] w 1 6 _
  refine J_aload_n dL_hasCat_0 rfl rfl ?_
  refine J_iconst (v := nI 0) dL_hasCat_1 (by decide) ?_
  refine J_aload_n dL_hasCat_2 rfl rfl ?_
  refine J_iload_n dL_hasCat_3 rfl rfl ?_
  refine J_callV (mi := mL_hasCat) (pc := 4) (kb := 0) (sb := 0) dL_hasCat_4 YX8_hasCat kL_46 hX.rc (c_X8_hasCat hX y) rfl rfl (Nat.le_of_ble_eq_true rfl) (by decide) (fun v w1 q => ?_) (fun E w1 q => ?_)
  · obtain ⟨e, rfl⟩ := GXo_V q
    have hO1 := (q.1.1 _ ho).trans hO
    refine J_if_eq (tgt := 14) dL_hasCat_7 (by decide) (fun h => ?_) (fun h => ?_)
    · refine J_lconst (v := Int64.ofNat 0) dL_hasCat_14 rfl ?_
      refine K_last dL_hasCat_15 hO1 (by decide) (by decide) (fun w2 u => ?_)
      refine J_goto (tgt := 22) dL_hasCat_16 (by decide) ?_
      refine J_iconst (v := nI 0) dL_hasCat_22 (by decide) ?_
      exact J_ireturn dL_hasCat_23 rfl rfl (LPo_ok q e ho u (by rw [h]; decide))
    · refine J_lconst (v := Int64.ofNat 1) dL_hasCat_10 rfl ?_
      refine J_goto (tgt := 15) dL_hasCat_11 (by decide) ?_
      refine K_last dL_hasCat_15 hO1 (by decide) (by decide) (fun w2 u => ?_)
      refine J_goto (tgt := 22) dL_hasCat_16 (by decide) ?_
      refine J_iconst (v := nI 0) dL_hasCat_22 (by decide) ?_
      exact J_ireturn dL_hasCat_23 rfl rfl (LPo_ok q e ho u (lw_b1 (lb_hasCat G y) h))
  · obtain ⟨e, rfl⟩ := GXo_E q
    rcases lc_hasCat G y with hc | hc
    · exact absurd hc e
    · have q2 := q
      rw [hc]
      refine JX_catch (i := 3) (pre := []) (x := ⟨0, 16, 19, 24⟩) (suf := []) rfl (fun y hy => by cases hy) rfl (by decide) clL_24 (OL_in (T2 (List.mem_of_getElem? (i := 184) rfl)) rfl) (Or.inl ⟨dL_hasCat_19, rfl, 1, rfl, ?_⟩) (by decide) rfl
      refine J_iconst (v := nI 1) dL_hasCat_20 (by decide) ?_
      exact J_ireturn dL_hasCat_21 rfl rfl (LPo_no q2 hc (by decide) hO ho rfl)

end JHELP

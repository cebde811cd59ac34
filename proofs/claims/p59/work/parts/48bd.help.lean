/-! THE LAW: its helpers -/
section JHELP
theorem c_L_trainByPriority {w : Wd} {x : Nat} {G : Gme} (hX : RepX w x G) (y : Int32) : MC 8 mL_trainByPriority 1 6 [.ref x, .int y] w (HV w x (gQ G (opA (rkX (gS G) y))).2.2 (lvR (gQ G (opA (rkX (gS G) y))))) := by
  refine MC_ofH pnL rfl (fun v hv => by simp only [List.mem_cons, List.not_mem_nil, or_false] at hv; rcases hv with rfl | rfl <;> rfl) (Nat.le_of_ble_eq_true rfl) (fun E w h => RP_no E w h) ?_
  show J 8 mL_trainByPriority 0 [some (.ref x), some (.int y), none] [] w 1 6 _
  refine J_aload_n dL_trainByPriority_0 rfl rfl ?_
  refine J_iload_n dL_trainByPriority_1 rfl rfl ?_
  refine J_callV (mi := mL_trainByPriority) (pc := 2) (kb := 0) (sb := 0) dL_trainByPriority_2 YX8_trainByPriority kL_121 hX.rc (c_X8_trainByPriority hX y) rfl rfl (Nat.le_of_ble_eq_true rfl) (by decide) (fun v w1 q => ?_) (fun E w1 q => ?_)
  · obtain ⟨e, rfl⟩ := GXo_V q
    exact J_ireturn dL_trainByPriority_5 rfl rfl (HV_ok q e rfl)
  · obtain ⟨e, rfl⟩ := GXo_E q
    rcases lc_trainByPriority G y with hc | hc
    · exact absurd hc e
    · have q2 := q
      rw [hc]
      refine JX_catch (i := 2) (pre := []) (x := ⟨0, 5, 6, 36⟩) (suf := []) rfl (fun y hy => by cases hy) rfl (by decide) clL_36 (OL_in (T2 (List.mem_of_getElem? (i := 158) rfl)) rfl) (Or.inl ⟨dL_trainByPriority_6, rfl, 1, rfl, ?_⟩) (by decide) rfl
      refine J_bipush (v := (-75)) dL_trainByPriority_7 (by decide) ?_
      exact J_ireturn dL_trainByPriority_9 rfl rfl (HV_no q2 hc (by decide) rfl)

theorem c_L_areLinked {w : Wd} {x : Nat} {G : Gme} (hX : RepX w x G) (y z : Int32) : MC 8 mL_areLinked 1 6 [.ref x, .int y, .int z] w (HV w x (gQ G (onB2 (gS G) y z (fun a b => (0, b2i (sLk (gS G) a b))))).2.2 (lvR (gQ G (onB2 (gS G) y z (fun a b => (0, b2i (sLk (gS G) a b))))))) := by
  refine MC_ofH pnL rfl (fun v hv => by simp only [List.mem_cons, List.not_mem_nil, or_false] at hv; rcases hv with rfl | rfl | rfl <;> rfl) (Nat.le_of_ble_eq_true rfl) (fun E w h => RP_no E w h) ?_
  show J 8 mL_areLinked 0 [some (.ref x), some (.int y), some (.int z), none] [] w 1 6 _
  refine J_aload_n dL_areLinked_0 rfl rfl ?_
  refine J_iload_n dL_areLinked_1 rfl rfl ?_
  refine J_iload_n dL_areLinked_2 rfl rfl ?_
  refine J_callV (mi := mL_areLinked) (pc := 3) (kb := 0) (sb := 0) dL_areLinked_3 YX8_areLinked kL_56 hX.rc (c_X8_areLinked hX y z) rfl rfl (Nat.le_of_ble_eq_true rfl) (by decide) (fun v w1 q => ?_) (fun E w1 q => ?_)
  · obtain ⟨e, rfl⟩ := GXo_V q
    refine J_if_eq (tgt := 13) dL_areLinked_6 (by decide) (fun h => ?_) (fun h => ?_)
    · refine J_iconst (v := nI 0) dL_areLinked_13 (by decide) ?_
      exact J_ireturn dL_areLinked_14 rfl rfl (HV_ok q e (by rw [h]; rfl))
    · refine J_iconst (v := nI 1) dL_areLinked_9 (by decide) ?_
      refine J_goto (tgt := 14) dL_areLinked_10 (by decide) ?_
      exact J_ireturn dL_areLinked_14 rfl rfl (HV_ok q e (lw_b1 (lb_areLinked G y z) h))
  · obtain ⟨e, rfl⟩ := GXo_E q
    rcases lc_areLinked G y z with hc | hc
    · exact absurd hc e
    · have q2 := q
      rw [hc]
      refine JX_catch (i := 3) (pre := []) (x := ⟨0, 14, 15, 31⟩) (suf := []) rfl (fun y hy => by cases hy) rfl (by decide) clL_31 (OL_in (T2 (List.mem_of_getElem? (i := 142) rfl)) rfl) (Or.inl ⟨dL_areLinked_15, rfl, 1, rfl, ?_⟩) (by decide) rfl
      refine J_bipush (v := (-77)) dL_areLinked_16 (by decide) ?_
      exact J_ireturn dL_areLinked_18 rfl rfl (HV_no q2 hc (by decide) rfl)

theorem c_L_distance {w : Wd} {x : Nat} {G : Gme} (hX : RepX w x G) (y z : Int32) : MC 8 mL_distance 1 6 [.ref x, .int y, .int z] w (HV w x (gQ G (onB2 (gS G) y z (fun a b => opA (dS (gS G) a b)))).2.2 (lvR (gQ G (onB2 (gS G) y z (fun a b => opA (dS (gS G) a b)))))) := by
  refine MC_ofH pnL rfl (fun v hv => by simp only [List.mem_cons, List.not_mem_nil, or_false] at hv; rcases hv with rfl | rfl | rfl <;> rfl) (Nat.le_of_ble_eq_true rfl) (fun E w h => RP_no E w h) ?_
  show J 8 mL_distance 0 [some (.ref x), some (.int y), some (.int z), none] [] w 1 6 _
  refine J_aload_n dL_distance_0 rfl rfl ?_
  refine J_iload_n dL_distance_1 rfl rfl ?_
  refine J_iload_n dL_distance_2 rfl rfl ?_
  refine J_callV (mi := mL_distance) (pc := 3) (kb := 0) (sb := 0) dL_distance_3 YX8_distance kL_73 hX.rc (c_X8_distance hX y z) rfl rfl (Nat.le_of_ble_eq_true rfl) (by decide) (fun v w1 q => ?_) (fun E w1 q => ?_)
  · obtain ⟨e, rfl⟩ := GXo_V q
    exact J_ireturn dL_distance_6 rfl rfl (HV_ok q e rfl)
  · obtain ⟨e, rfl⟩ := GXo_E q
    rcases lc_distance G y z with hc | hc | hc
    · exact absurd hc e
    · have q2 := q
      rw [hc]
      refine JX_catch (i := 3) (pre := []) (x := ⟨0, 6, 7, 31⟩) (suf := [⟨0, 6, 11, 36⟩]) rfl (fun y hy => by cases hy) rfl (by decide) clL_31 (OL_in (T2 (List.mem_of_getElem? (i := 142) rfl)) rfl) (Or.inl ⟨dL_distance_7, rfl, 1, rfl, ?_⟩) (by decide) rfl
      refine J_bipush (v := (-77)) dL_distance_8 (by decide) ?_
      exact J_ireturn dL_distance_10 rfl rfl (HV_no q2 hc (by decide) rfl)
    · have q2 := q
      rw [hc]
      refine JX_catch (i := 3) (pre := [⟨0, 6, 7, 31⟩]) (x := ⟨0, 6, 11, 36⟩) (suf := []) rfl (List.forall_mem_cons.mpr ⟨Or.inr ⟨by decide, _, clL_31, List.mem_of_getElem? (i := 15) rfl⟩, fun y hy => by cases hy⟩) rfl (by decide) clL_36 (OL_in (T2 (List.mem_of_getElem? (i := 158) rfl)) rfl) (Or.inl ⟨dL_distance_11, rfl, 1, rfl, ?_⟩) (by decide) rfl
      refine J_bipush (v := (-75)) dL_distance_12 (by decide) ?_
      exact J_ireturn dL_distance_14 rfl rfl (HV_no q2 hc (by decide) rfl)

theorem c_L_distanceByRounds {w : Wd} {x : Nat} {G : Gme} (hX : RepX w x G) (y z : Int32) : MC 8 mL_distanceByRounds 1 6 [.ref x, .int y, .int z] w (HV w x (gQ G (onB2 (gS G) y z (fun a b => opA (dS (gS G) a b)))).2.2 (lvR (gQ G (onB2 (gS G) y z (fun a b => opA (dS (gS G) a b)))))) := by
  refine MC_ofH pnL rfl (fun v hv => by simp only [List.mem_cons, List.not_mem_nil, or_false] at hv; rcases hv with rfl | rfl | rfl <;> rfl) (Nat.le_of_ble_eq_true rfl) (fun E w h => RP_no E w h) ?_
  show J 8 mL_distanceByRounds 0 [some (.ref x), some (.int y), some (.int z), none] [] w 1 6 _
  refine J_aload_n dL_distanceByRounds_0 rfl rfl ?_
  refine J_iload_n dL_distanceByRounds_1 rfl rfl ?_
  refine J_iload_n dL_distanceByRounds_2 rfl rfl ?_
  refine J_callV (mi := mL_distanceByRounds) (pc := 3) (kb := 0) (sb := 0) dL_distanceByRounds_3 YX8_distanceByRounds kL_76 hX.rc (c_X8_distanceByRounds hX y z) rfl rfl (Nat.le_of_ble_eq_true rfl) (by decide) (fun v w1 q => ?_) (fun E w1 q => ?_)
  · obtain ⟨e, rfl⟩ := GXo_V q
    exact J_ireturn dL_distanceByRounds_6 rfl rfl (HV_ok q e rfl)
  · obtain ⟨e, rfl⟩ := GXo_E q
    rcases lc_distanceByRounds G y z with hc | hc | hc
    · exact absurd hc e
    · have q2 := q
      rw [hc]
      refine JX_catch (i := 3) (pre := []) (x := ⟨0, 6, 7, 31⟩) (suf := [⟨0, 6, 11, 36⟩]) rfl (fun y hy => by cases hy) rfl (by decide) clL_31 (OL_in (T2 (List.mem_of_getElem? (i := 142) rfl)) rfl) (Or.inl ⟨dL_distanceByRounds_7, rfl, 1, rfl, ?_⟩) (by decide) rfl
      refine J_bipush (v := (-77)) dL_distanceByRounds_8 (by decide) ?_
      exact J_ireturn dL_distanceByRounds_10 rfl rfl (HV_no q2 hc (by decide) rfl)
    · have q2 := q
      rw [hc]
      refine JX_catch (i := 3) (pre := [⟨0, 6, 7, 31⟩]) (x := ⟨0, 6, 11, 36⟩) (suf := []) rfl (List.forall_mem_cons.mpr ⟨Or.inr ⟨by decide, _, clL_31, List.mem_of_getElem? (i := 15) rfl⟩, fun y hy => by cases hy⟩) rfl (by decide) clL_36 (OL_in (T2 (List.mem_of_getElem? (i := 158) rfl)) rfl) (Or.inl ⟨dL_distanceByRounds_11, rfl, 1, rfl, ?_⟩) (by decide) rfl
      refine J_bipush (v := (-75)) dL_distanceByRounds_12 (by decide) ?_
      exact J_ireturn dL_distanceByRounds_14 rfl rfl (HV_no q2 hc (by decide) rfl)

theorem c_L_ticksUntilArrival {w : Wd} {x : Nat} {G : Gme} (hX : RepX w x G) (y : Int32) : MC 9 mL_ticksUntilArrival 1 6 [.ref x, .int y] w (HV w x (gQ G (qArr (gS G) y)).2.2 (lvR (gQ G (qArr (gS G) y)))) := by
  refine MC_ofH pnL rfl (fun v hv => by simp only [List.mem_cons, List.not_mem_nil, or_false] at hv; rcases hv with rfl | rfl <;> rfl) (Nat.le_of_ble_eq_true rfl) (fun E w h => RP_no E w h) ?_
  show J 9 mL_ticksUntilArrival 0 [some (.ref x), some (.int y), none] [] w 1 6 _
  refine J_aload_n dL_ticksUntilArrival_0 rfl rfl ?_
  refine J_iload_n dL_ticksUntilArrival_1 rfl rfl ?_
  refine J_callV (mi := mL_ticksUntilArrival) (pc := 2) (kb := 0) (sb := 0) dL_ticksUntilArrival_2 YX8_ticksUntilArrival kL_130 hX.rc (c_X8_ticksUntilArrival hX y) rfl rfl (Nat.le_of_ble_eq_true rfl) (by decide) (fun v w1 q => ?_) (fun E w1 q => ?_)
  · obtain ⟨e, rfl⟩ := GXo_V q
    exact J_ireturn dL_ticksUntilArrival_5 rfl rfl (HV_ok q e rfl)
  · obtain ⟨e, rfl⟩ := GXo_E q
    rcases lc_ticksUntilArrival G y with hc | hc | hc
    · exact absurd hc e
    · have q2 := q
      rw [hc]
      refine JX_catch (i := 2) (pre := []) (x := ⟨0, 5, 6, 31⟩) (suf := [⟨0, 5, 10, 36⟩]) rfl (fun y hy => by cases hy) rfl (by decide) clL_31 (OL_in (T2 (List.mem_of_getElem? (i := 142) rfl)) rfl) (Or.inl ⟨dL_ticksUntilArrival_6, rfl, 1, rfl, ?_⟩) (by decide) rfl
      refine J_bipush (v := (-77)) dL_ticksUntilArrival_7 (by decide) ?_
      exact J_ireturn dL_ticksUntilArrival_9 rfl rfl (HV_no q2 hc (by decide) rfl)
    · have q2 := q
      rw [hc]
      refine JX_catch (i := 2) (pre := [⟨0, 5, 6, 31⟩]) (x := ⟨0, 5, 10, 36⟩) (suf := []) rfl (List.forall_mem_cons.mpr ⟨Or.inr ⟨by decide, _, clL_31, List.mem_of_getElem? (i := 15) rfl⟩, fun y hy => by cases hy⟩) rfl (by decide) clL_36 (OL_in (T2 (List.mem_of_getElem? (i := 158) rfl)) rfl) (Or.inl ⟨dL_ticksUntilArrival_10, rfl, 1, rfl, ?_⟩) (by decide) rfl
      refine J_bipush (v := (-75)) dL_ticksUntilArrival_11 (by decide) ?_
      exact J_ireturn dL_ticksUntilArrival_13 rfl rfl (HV_no q2 hc (by decide) rfl)

theorem c_L_feed {w : Wd} {x : Nat} {G : Gme} (hX : RepX w x G) {c : Nat} (hc : c < 65536) : MC 7 mL_feed 1 6 [.ref x, .int (nI c)] w (HV w x (gFeed G c).2.2 (lvR (gFeed G c))) := by
  refine MC_ofH pnL rfl (fun v hv => by simp only [List.mem_cons, List.not_mem_nil, or_false] at hv; rcases hv with rfl | rfl <;> rfl) (Nat.le_of_ble_eq_true rfl) (fun E w h => RP_no E w h) ?_
  show J 7 mL_feed 0 [some (.ref x), some (.int (nI c)), none] [] w 1 6 _
  refine J_aload_n dL_feed_0 rfl rfl ?_
  refine J_iload_n dL_feed_1 rfl rfl ?_
  refine J_callV (mi := mL_feed) (pc := 2) (kb := 0) (sb := 0) dL_feed_2 YX8_feed kL_152 hX.rc (c_X8_feed hX hc) rfl rfl (Nat.le_of_ble_eq_true rfl) (by decide) (fun v w1 q => ?_) (fun E w1 q => ?_)
  · obtain ⟨e, rfl⟩ := GXo_V q
    exact J_ireturn dL_feed_5 rfl rfl (HV_ok q e rfl)
  · obtain ⟨e, rfl⟩ := GXo_E q
    rcases lc_feed G (c := c) with hc | hc
    · exact absurd hc e
    · have q2 := q
      rw [hc]
      refine JX_catch (i := 2) (pre := []) (x := ⟨0, 5, 6, 22⟩) (suf := []) rfl (fun y hy => by cases hy) rfl (by decide) clL_22 (OL_in (T3 (List.mem_of_getElem? (i := 49) rfl)) rfl) (Or.inl ⟨dL_feed_6, rfl, 1, rfl, ?_⟩) (by decide) rfl
      refine J_bipush (v := (-79)) dL_feed_7 (by decide) ?_
      exact J_ireturn dL_feed_9 rfl rfl (HV_no q2 hc (by decide) rfl)

theorem c_L_execute {w : Wd} {x : Nat} {G : Gme} (hX : RepX w x G)  : MC 15 mL_execute 1 6 [.ref x] w (HV w x (gExec G).2.2 (lvR (gExec G))) := by
  refine MC_ofH pnL rfl (fun v hv => by simp only [List.mem_cons, List.not_mem_nil, or_false] at hv; rcases hv with rfl <;> rfl) (Nat.le_of_ble_eq_true rfl) (fun E w h => RP_no E w h) ?_
  show J 15 mL_execute 0 [some (.ref x), none] [] w 1 6 _
  refine J_aload_n dL_execute_0 rfl rfl ?_
  refine J_callV (mi := mL_execute) (pc := 1) (kb := 0) (sb := 0) dL_execute_1 YX8_execute kL_156 hX.rc (c_X8_execute hX) rfl rfl (Nat.le_of_ble_eq_true rfl) (by decide) (fun v w1 q => ?_) (fun E w1 q => ?_)
  · obtain ⟨e, rfl⟩ := GXo_V q
    exact J_ireturn dL_execute_4 rfl rfl (HV_ok q e rfl)
  · obtain ⟨e, rfl⟩ := GXo_E q
    rcases lc_execute G with hc | hc | hc
    · exact absurd hc e
    · have q2 := q
      rw [hc]
      refine JX_catch (i := 1) (pre := []) (x := ⟨0, 4, 5, 20⟩) (suf := [⟨0, 4, 9, 41⟩]) rfl (fun y hy => by cases hy) rfl (by decide) clL_20 (OL_in (T3 (List.mem_of_getElem? (i := 33) rfl)) rfl) (Or.inl ⟨dL_execute_5, rfl, 1, rfl, ?_⟩) (by decide) rfl
      refine J_bipush (v := (-78)) dL_execute_6 (by decide) ?_
      exact J_ireturn dL_execute_8 rfl rfl (HV_no q2 hc (by decide) rfl)
    · have q2 := q
      rw [hc]
      refine JX_catch (i := 1) (pre := [⟨0, 4, 5, 20⟩]) (x := ⟨0, 4, 9, 41⟩) (suf := []) rfl (List.forall_mem_cons.mpr ⟨Or.inr ⟨by decide, _, clL_20, List.mem_of_getElem? (i := 2) rfl⟩, fun y hy => by cases hy⟩) rfl (by decide) clL_41 (OL_in (T3 (List.mem_of_getElem? (i := 65) rfl)) rfl) (Or.inl ⟨dL_execute_9, rfl, 1, rfl, ?_⟩) (by decide) rfl
      refine J_bipush (v := (-76)) dL_execute_10 (by decide) ?_
      exact J_ireturn dL_execute_12 rfl rfl (HV_no q2 hc (by decide) rfl)

theorem c_L_undo {w : Wd} {x : Nat} {G : Gme} (hX : RepX w x G)  : MC 7 mL_undo 1 6 [.ref x] w (HV w x (gUndo G).2.2 (lvR (gUndo G))) := by
  refine MC_ofH pnL rfl (fun v hv => by simp only [List.mem_cons, List.not_mem_nil, or_false] at hv; rcases hv with rfl <;> rfl) (Nat.le_of_ble_eq_true rfl) (fun E w h => RP_no E w h) ?_
  show J 7 mL_undo 0 [some (.ref x), none] [] w 1 6 _
  refine J_aload_n dL_undo_0 rfl rfl ?_
  refine J_callV (mi := mL_undo) (pc := 1) (kb := 0) (sb := 0) dL_undo_1 YX8_undo kL_166 hX.rc (c_X8_undo hX) rfl rfl (Nat.le_of_ble_eq_true rfl) (by decide) (fun v w1 q => ?_) (fun E w1 q => ?_)
  · obtain ⟨e, rfl⟩ := GXo_V q
    exact J_ireturn dL_undo_4 rfl rfl (HV_ok q e rfl)
  · obtain ⟨e, rfl⟩ := GXo_E q
    rcases lc_undo G with hc | hc
    · exact absurd hc e
    · have q2 := q
      rw [hc]
      refine JX_catch (i := 1) (pre := []) (x := ⟨0, 4, 5, 22⟩) (suf := []) rfl (fun y hy => by cases hy) rfl (by decide) clL_22 (OL_in (T3 (List.mem_of_getElem? (i := 49) rfl)) rfl) (Or.inl ⟨dL_undo_5, rfl, 1, rfl, ?_⟩) (by decide) rfl
      refine J_bipush (v := (-79)) dL_undo_6 (by decide) ?_
      exact J_ireturn dL_undo_8 rfl rfl (HV_no q2 hc (by decide) rfl)

theorem c_L_restore {w : Wd} {x : Nat} {G : Gme} (hX : RepX w x G)  : MC 7 mL_restore 1 6 [.ref x] w (HV w x (gRest G).2.2 (lvR (gRest G))) := by
  refine MC_ofH pnL rfl (fun v hv => by simp only [List.mem_cons, List.not_mem_nil, or_false] at hv; rcases hv with rfl <;> rfl) (Nat.le_of_ble_eq_true rfl) (fun E w h => RP_no E w h) ?_
  show J 7 mL_restore 0 [some (.ref x), none] [] w 1 6 _
  refine J_aload_n dL_restore_0 rfl rfl ?_
  refine J_callV (mi := mL_restore) (pc := 1) (kb := 0) (sb := 0) dL_restore_1 YX8_restore kL_169 hX.rc (c_X8_restore hX) rfl rfl (Nat.le_of_ble_eq_true rfl) (by decide) (fun v w1 q => ?_) (fun E w1 q => ?_)
  · obtain ⟨e, rfl⟩ := GXo_V q
    exact J_ireturn dL_restore_4 rfl rfl (HV_ok q e rfl)
  · obtain ⟨e, rfl⟩ := GXo_E q
    rcases lc_restore G with hc | hc
    · exact absurd hc e
    · have q2 := q
      rw [hc]
      refine JX_catch (i := 1) (pre := []) (x := ⟨0, 4, 5, 22⟩) (suf := []) rfl (fun y hy => by cases hy) rfl (by decide) clL_22 (OL_in (T3 (List.mem_of_getElem? (i := 49) rfl)) rfl) (Or.inl ⟨dL_restore_5, rfl, 1, rfl, ?_⟩) (by decide) rfl
      refine J_bipush (v := (-79)) dL_restore_6 (by decide) ?_
      exact J_ireturn dL_restore_8 rfl rfl (HV_no q2 hc (by decide) rfl)

end JHELP

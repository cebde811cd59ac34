/-! THE LAW: its helpers -/
section JHELP
theorem c_L_signal {w : Wd} {x : Nat} {G : Gme} (hX : RepX w x G) (y : Int32) : MC 8 mL_signal 1 6 [.ref x, .int y] w (HV w x (gQ G (onI (sNb (gS G)) y (fun i => (0, nI (sgn (gS G) i))))).2.2 (lvR (gQ G (onI (sNb (gS G)) y (fun i => (0, nI (sgn (gS G) i))))))) := by
  refine MC_ofH pnL rfl (fun v hv => by simp only [List.mem_cons, List.not_mem_nil, or_false] at hv; rcases hv with rfl | rfl <;> rfl) (Nat.le_of_ble_eq_true rfl) (fun E w h => RP_no E w h) ?_
  show J 8 mL_signal 0 [some (.ref x), some (.int y), none] [] w 1 6 _
  refine J_aload_n dL_signal_0 rfl rfl ?_
  refine J_iload_n dL_signal_1 rfl rfl ?_
  refine J_callV (mi := mL_signal) (pc := 2) (kb := 0) (sb := 0) dL_signal_2 YX8_signal kL_69 hX.rc (c_X8_signal hX y) rfl rfl (Nat.le_of_ble_eq_true rfl) (by decide) (fun v w1 q => ?_) (fun E w1 q => ?_)
  · obtain ⟨e, rfl⟩ := GXo_V q
    exact J_ireturn dL_signal_5 rfl rfl (HV_ok q e rfl)
  · obtain ⟨e, rfl⟩ := GXo_E q
    rcases lc_signal G y with hc | hc
    · exact absurd hc e
    · have q2 := q
      rw [hc]
      refine JX_catch (i := 2) (pre := []) (x := ⟨0, 5, 6, 31⟩) (suf := []) rfl (fun y hy => by cases hy) rfl (by decide) clL_31 (OL_in (T2 (List.mem_of_getElem? (i := 142) rfl)) rfl) (Or.inl ⟨dL_signal_6, rfl, 1, rfl, ?_⟩) (by decide) rfl
      refine J_bipush (v := (-77)) dL_signal_7 (by decide) ?_
      exact J_ireturn dL_signal_9 rfl rfl (HV_no q2 hc (by decide) rfl)

theorem c_L_blockOf {w : Wd} {x : Nat} {G : Gme} (hX : RepX w x G) (y : Int32) : MC 8 mL_blockOf 1 6 [.ref x, .int y] w (HV w x (gQ G (onI (sNt (gS G)) y (fun i => (0, nI (sPl (gS G) i))))).2.2 (lvR (gQ G (onI (sNt (gS G)) y (fun i => (0, nI (sPl (gS G) i))))))) := by
  refine MC_ofH pnL rfl (fun v hv => by simp only [List.mem_cons, List.not_mem_nil, or_false] at hv; rcases hv with rfl | rfl <;> rfl) (Nat.le_of_ble_eq_true rfl) (fun E w h => RP_no E w h) ?_
  show J 8 mL_blockOf 0 [some (.ref x), some (.int y), none] [] w 1 6 _
  refine J_aload_n dL_blockOf_0 rfl rfl ?_
  refine J_iload_n dL_blockOf_1 rfl rfl ?_
  refine J_callV (mi := mL_blockOf) (pc := 2) (kb := 0) (sb := 0) dL_blockOf_2 YX8_blockOf kL_103 hX.rc (c_X8_blockOf hX y) rfl rfl (Nat.le_of_ble_eq_true rfl) (by decide) (fun v w1 q => ?_) (fun E w1 q => ?_)
  · obtain ⟨e, rfl⟩ := GXo_V q
    exact J_ireturn dL_blockOf_5 rfl rfl (HV_ok q e rfl)
  · obtain ⟨e, rfl⟩ := GXo_E q
    rcases lc_blockOf G y with hc | hc
    · exact absurd hc e
    · have q2 := q
      rw [hc]
      refine JX_catch (i := 2) (pre := []) (x := ⟨0, 5, 6, 31⟩) (suf := []) rfl (fun y hy => by cases hy) rfl (by decide) clL_31 (OL_in (T2 (List.mem_of_getElem? (i := 142) rfl)) rfl) (Or.inl ⟨dL_blockOf_6, rfl, 1, rfl, ?_⟩) (by decide) rfl
      refine J_bipush (v := (-77)) dL_blockOf_7 (by decide) ?_
      exact J_ireturn dL_blockOf_9 rfl rfl (HV_no q2 hc (by decide) rfl)

theorem c_L_priority {w : Wd} {x : Nat} {G : Gme} (hX : RepX w x G) (y : Int32) : MC 8 mL_priority 1 6 [.ref x, .int y] w (HV w x (gQ G (onI (sNt (gS G)) y (fun i => (0, nI (sPr (gS G) i))))).2.2 (lvR (gQ G (onI (sNt (gS G)) y (fun i => (0, nI (sPr (gS G) i))))))) := by
  refine MC_ofH pnL rfl (fun v hv => by simp only [List.mem_cons, List.not_mem_nil, or_false] at hv; rcases hv with rfl | rfl <;> rfl) (Nat.le_of_ble_eq_true rfl) (fun E w h => RP_no E w h) ?_
  show J 8 mL_priority 0 [some (.ref x), some (.int y), none] [] w 1 6 _
  refine J_aload_n dL_priority_0 rfl rfl ?_
  refine J_iload_n dL_priority_1 rfl rfl ?_
  refine J_callV (mi := mL_priority) (pc := 2) (kb := 0) (sb := 0) dL_priority_2 YX8_priority kL_106 hX.rc (c_X8_priority hX y) rfl rfl (Nat.le_of_ble_eq_true rfl) (by decide) (fun v w1 q => ?_) (fun E w1 q => ?_)
  · obtain ⟨e, rfl⟩ := GXo_V q
    exact J_ireturn dL_priority_5 rfl rfl (HV_ok q e rfl)
  · obtain ⟨e, rfl⟩ := GXo_E q
    rcases lc_priority G y with hc | hc
    · exact absurd hc e
    · have q2 := q
      rw [hc]
      refine JX_catch (i := 2) (pre := []) (x := ⟨0, 5, 6, 31⟩) (suf := []) rfl (fun y hy => by cases hy) rfl (by decide) clL_31 (OL_in (T2 (List.mem_of_getElem? (i := 142) rfl)) rfl) (Or.inl ⟨dL_priority_6, rfl, 1, rfl, ?_⟩) (by decide) rfl
      refine J_bipush (v := (-77)) dL_priority_7 (by decide) ?_
      exact J_ireturn dL_priority_9 rfl rfl (HV_no q2 hc (by decide) rfl)

theorem c_L_remainingTicks {w : Wd} {x : Nat} {G : Gme} (hX : RepX w x G) (y : Int32) : MC 8 mL_remainingTicks 1 6 [.ref x, .int y] w (HV w x (gQ G (onI (sNt (gS G)) y (fun i => (0, nI (sRe (gS G) i))))).2.2 (lvR (gQ G (onI (sNt (gS G)) y (fun i => (0, nI (sRe (gS G) i))))))) := by
  refine MC_ofH pnL rfl (fun v hv => by simp only [List.mem_cons, List.not_mem_nil, or_false] at hv; rcases hv with rfl | rfl <;> rfl) (Nat.le_of_ble_eq_true rfl) (fun E w h => RP_no E w h) ?_
  show J 8 mL_remainingTicks 0 [some (.ref x), some (.int y), none] [] w 1 6 _
  refine J_aload_n dL_remainingTicks_0 rfl rfl ?_
  refine J_iload_n dL_remainingTicks_1 rfl rfl ?_
  refine J_callV (mi := mL_remainingTicks) (pc := 2) (kb := 0) (sb := 0) dL_remainingTicks_2 YX8_remainingTicks kL_109 hX.rc (c_X8_remainingTicks hX y) rfl rfl (Nat.le_of_ble_eq_true rfl) (by decide) (fun v w1 q => ?_) (fun E w1 q => ?_)
  · obtain ⟨e, rfl⟩ := GXo_V q
    exact J_ireturn dL_remainingTicks_5 rfl rfl (HV_ok q e rfl)
  · obtain ⟨e, rfl⟩ := GXo_E q
    rcases lc_remainingTicks G y with hc | hc
    · exact absurd hc e
    · have q2 := q
      rw [hc]
      refine JX_catch (i := 2) (pre := []) (x := ⟨0, 5, 6, 31⟩) (suf := []) rfl (fun y hy => by cases hy) rfl (by decide) clL_31 (OL_in (T2 (List.mem_of_getElem? (i := 142) rfl)) rfl) (Or.inl ⟨dL_remainingTicks_6, rfl, 1, rfl, ?_⟩) (by decide) rfl
      refine J_bipush (v := (-77)) dL_remainingTicks_7 (by decide) ?_
      exact J_ireturn dL_remainingTicks_9 rfl rfl (HV_no q2 hc (by decide) rfl)

theorem c_L_waits {w : Wd} {x : Nat} {G : Gme} (hX : RepX w x G) (y : Int32) : MC 8 mL_waits 1 6 [.ref x, .int y] w (HV w x (gQ G (onI (sNt (gS G)) y (fun i => (0, sWa (gS G) i)))).2.2 (lvR (gQ G (onI (sNt (gS G)) y (fun i => (0, sWa (gS G) i)))))) := by
  refine MC_ofH pnL rfl (fun v hv => by simp only [List.mem_cons, List.not_mem_nil, or_false] at hv; rcases hv with rfl | rfl <;> rfl) (Nat.le_of_ble_eq_true rfl) (fun E w h => RP_no E w h) ?_
  show J 8 mL_waits 0 [some (.ref x), some (.int y), none] [] w 1 6 _
  refine J_aload_n dL_waits_0 rfl rfl ?_
  refine J_iload_n dL_waits_1 rfl rfl ?_
  refine J_callV (mi := mL_waits) (pc := 2) (kb := 0) (sb := 0) dL_waits_2 YX8_waits kL_118 hX.rc (c_X8_waits hX y) rfl rfl (Nat.le_of_ble_eq_true rfl) (by decide) (fun v w1 q => ?_) (fun E w1 q => ?_)
  · obtain ⟨e, rfl⟩ := GXo_V q
    exact J_ireturn dL_waits_5 rfl rfl (HV_ok q e rfl)
  · obtain ⟨e, rfl⟩ := GXo_E q
    rcases lc_waits G y with hc | hc
    · exact absurd hc e
    · have q2 := q
      rw [hc]
      refine JX_catch (i := 2) (pre := []) (x := ⟨0, 5, 6, 31⟩) (suf := []) rfl (fun y hy => by cases hy) rfl (by decide) clL_31 (OL_in (T2 (List.mem_of_getElem? (i := 142) rfl)) rfl) (Or.inl ⟨dL_waits_6, rfl, 1, rfl, ?_⟩) (by decide) rfl
      refine J_bipush (v := (-77)) dL_waits_7 (by decide) ?_
      exact J_ireturn dL_waits_9 rfl rfl (HV_no q2 hc (by decide) rfl)

theorem c_L_isCushion {w : Wd} {x : Nat} {G : Gme} (hX : RepX w x G) (y : Int32) : MC 8 mL_isCushion 1 6 [.ref x, .int y] w (HV w x (gQ G (onI (sNb (gS G)) y (fun i => (0, b2i (sCu (gS G) i))))).2.2 (lvR (gQ G (onI (sNb (gS G)) y (fun i => (0, b2i (sCu (gS G) i))))))) := by
  refine MC_ofH pnL rfl (fun v hv => by simp only [List.mem_cons, List.not_mem_nil, or_false] at hv; rcases hv with rfl | rfl <;> rfl) (Nat.le_of_ble_eq_true rfl) (fun E w h => RP_no E w h) ?_
  show J 8 mL_isCushion 0 [some (.ref x), some (.int y), none] [] w 1 6 _
  refine J_aload_n dL_isCushion_0 rfl rfl ?_
  refine J_iload_n dL_isCushion_1 rfl rfl ?_
  refine J_callV (mi := mL_isCushion) (pc := 2) (kb := 0) (sb := 0) dL_isCushion_2 YX8_isCushion kL_49 hX.rc (c_X8_isCushion hX y) rfl rfl (Nat.le_of_ble_eq_true rfl) (by decide) (fun v w1 q => ?_) (fun E w1 q => ?_)
  · obtain ⟨e, rfl⟩ := GXo_V q
    refine J_if_eq (tgt := 12) dL_isCushion_5 (by decide) (fun h => ?_) (fun h => ?_)
    · refine J_iconst (v := nI 0) dL_isCushion_12 (by decide) ?_
      exact J_ireturn dL_isCushion_13 rfl rfl (HV_ok q e (by rw [h]; rfl))
    · refine J_iconst (v := nI 1) dL_isCushion_8 (by decide) ?_
      refine J_goto (tgt := 13) dL_isCushion_9 (by decide) ?_
      exact J_ireturn dL_isCushion_13 rfl rfl (HV_ok q e (lw_b1 (lb_isCushion G y) h))
  · obtain ⟨e, rfl⟩ := GXo_E q
    rcases lc_isCushion G y with hc | hc
    · exact absurd hc e
    · have q2 := q
      rw [hc]
      refine JX_catch (i := 2) (pre := []) (x := ⟨0, 13, 14, 31⟩) (suf := []) rfl (fun y hy => by cases hy) rfl (by decide) clL_31 (OL_in (T2 (List.mem_of_getElem? (i := 142) rfl)) rfl) (Or.inl ⟨dL_isCushion_14, rfl, 1, rfl, ?_⟩) (by decide) rfl
      refine J_bipush (v := (-77)) dL_isCushion_15 (by decide) ?_
      exact J_ireturn dL_isCushion_17 rfl rfl (HV_no q2 hc (by decide) rfl)

theorem c_L_hasCat {w : Wd} {x : Nat} {G : Gme} (hX : RepX w x G) (y : Int32) : MC 8 mL_hasCat 1 6 [.ref x, .int y] w (HV w x (gQ G (onI (sNb (gS G)) y (fun i => (0, b2i (sCa (gS G) i))))).2.2 (lvR (gQ G (onI (sNb (gS G)) y (fun i => (0, b2i (sCa (gS G) i))))))) := by
  refine MC_ofH pnL rfl (fun v hv => by simp only [List.mem_cons, List.not_mem_nil, or_false] at hv; rcases hv with rfl | rfl <;> rfl) (Nat.le_of_ble_eq_true rfl) (fun E w h => RP_no E w h) ?_
  show J 8 mL_hasCat 0 [some (.ref x), some (.int y), none] [] w 1 6 _
  refine J_aload_n dL_hasCat_0 rfl rfl ?_
  refine J_iload_n dL_hasCat_1 rfl rfl ?_
  refine J_callV (mi := mL_hasCat) (pc := 2) (kb := 0) (sb := 0) dL_hasCat_2 YX8_hasCat kL_53 hX.rc (c_X8_hasCat hX y) rfl rfl (Nat.le_of_ble_eq_true rfl) (by decide) (fun v w1 q => ?_) (fun E w1 q => ?_)
  · obtain ⟨e, rfl⟩ := GXo_V q
    refine J_if_eq (tgt := 12) dL_hasCat_5 (by decide) (fun h => ?_) (fun h => ?_)
    · refine J_iconst (v := nI 0) dL_hasCat_12 (by decide) ?_
      exact J_ireturn dL_hasCat_13 rfl rfl (HV_ok q e (by rw [h]; rfl))
    · refine J_iconst (v := nI 1) dL_hasCat_8 (by decide) ?_
      refine J_goto (tgt := 13) dL_hasCat_9 (by decide) ?_
      exact J_ireturn dL_hasCat_13 rfl rfl (HV_ok q e (lw_b1 (lb_hasCat G y) h))
  · obtain ⟨e, rfl⟩ := GXo_E q
    rcases lc_hasCat G y with hc | hc
    · exact absurd hc e
    · have q2 := q
      rw [hc]
      refine JX_catch (i := 2) (pre := []) (x := ⟨0, 13, 14, 31⟩) (suf := []) rfl (fun y hy => by cases hy) rfl (by decide) clL_31 (OL_in (T2 (List.mem_of_getElem? (i := 142) rfl)) rfl) (Or.inl ⟨dL_hasCat_14, rfl, 1, rfl, ?_⟩) (by decide) rfl
      refine J_bipush (v := (-77)) dL_hasCat_15 (by decide) ?_
      exact J_ireturn dL_hasCat_17 rfl rfl (HV_no q2 hc (by decide) rfl)

theorem c_L_isDerailed {w : Wd} {x : Nat} {G : Gme} (hX : RepX w x G) (y : Int32) : MC 8 mL_isDerailed 1 6 [.ref x, .int y] w (HV w x (gQ G (onI (sNt (gS G)) y (fun i => (0, b2i (sOf (gS G) i))))).2.2 (lvR (gQ G (onI (sNt (gS G)) y (fun i => (0, b2i (sOf (gS G) i))))))) := by
  refine MC_ofH pnL rfl (fun v hv => by simp only [List.mem_cons, List.not_mem_nil, or_false] at hv; rcases hv with rfl | rfl <;> rfl) (Nat.le_of_ble_eq_true rfl) (fun E w h => RP_no E w h) ?_
  show J 8 mL_isDerailed 0 [some (.ref x), some (.int y), none] [] w 1 6 _
  refine J_aload_n dL_isDerailed_0 rfl rfl ?_
  refine J_iload_n dL_isDerailed_1 rfl rfl ?_
  refine J_callV (mi := mL_isDerailed) (pc := 2) (kb := 0) (sb := 0) dL_isDerailed_2 YX8_isDerailed kL_115 hX.rc (c_X8_isDerailed hX y) rfl rfl (Nat.le_of_ble_eq_true rfl) (by decide) (fun v w1 q => ?_) (fun E w1 q => ?_)
  · obtain ⟨e, rfl⟩ := GXo_V q
    refine J_if_eq (tgt := 12) dL_isDerailed_5 (by decide) (fun h => ?_) (fun h => ?_)
    · refine J_iconst (v := nI 0) dL_isDerailed_12 (by decide) ?_
      exact J_ireturn dL_isDerailed_13 rfl rfl (HV_ok q e (by rw [h]; rfl))
    · refine J_iconst (v := nI 1) dL_isDerailed_8 (by decide) ?_
      refine J_goto (tgt := 13) dL_isDerailed_9 (by decide) ?_
      exact J_ireturn dL_isDerailed_13 rfl rfl (HV_ok q e (lw_b1 (lb_isDerailed G y) h))
  · obtain ⟨e, rfl⟩ := GXo_E q
    rcases lc_isDerailed G y with hc | hc
    · exact absurd hc e
    · have q2 := q
      rw [hc]
      refine JX_catch (i := 2) (pre := []) (x := ⟨0, 13, 14, 31⟩) (suf := []) rfl (fun y hy => by cases hy) rfl (by decide) clL_31 (OL_in (T2 (List.mem_of_getElem? (i := 142) rfl)) rfl) (Or.inl ⟨dL_isDerailed_14, rfl, 1, rfl, ?_⟩) (by decide) rfl
      refine J_bipush (v := (-77)) dL_isDerailed_15 (by decide) ?_
      exact J_ireturn dL_isDerailed_17 rfl rfl (HV_no q2 hc (by decide) rfl)

theorem c_L_trainIn {w : Wd} {x : Nat} {G : Gme} (hX : RepX w x G) (y : Int32) : MC 8 mL_trainIn 1 6 [.ref x, .int y] w (HV w x (gQ G (onI (sNb (gS G)) y (fun i => opA (tAt (gS G) i)))).2.2 (lvR (gQ G (onI (sNb (gS G)) y (fun i => opA (tAt (gS G) i)))))) := by
  refine MC_ofH pnL rfl (fun v hv => by simp only [List.mem_cons, List.not_mem_nil, or_false] at hv; rcases hv with rfl | rfl <;> rfl) (Nat.le_of_ble_eq_true rfl) (fun E w h => RP_no E w h) ?_
  show J 8 mL_trainIn 0 [some (.ref x), some (.int y), none] [] w 1 6 _
  refine J_aload_n dL_trainIn_0 rfl rfl ?_
  refine J_iload_n dL_trainIn_1 rfl rfl ?_
  refine J_callV (mi := mL_trainIn) (pc := 2) (kb := 0) (sb := 0) dL_trainIn_2 YX8_trainIn kL_63 hX.rc (c_X8_trainIn hX y) rfl rfl (Nat.le_of_ble_eq_true rfl) (by decide) (fun v w1 q => ?_) (fun E w1 q => ?_)
  · obtain ⟨e, rfl⟩ := GXo_V q
    exact J_ireturn dL_trainIn_5 rfl rfl (HV_ok q e rfl)
  · obtain ⟨e, rfl⟩ := GXo_E q
    rcases lc_trainIn G y with hc | hc | hc
    · exact absurd hc e
    · have q2 := q
      rw [hc]
      refine JX_catch (i := 2) (pre := []) (x := ⟨0, 5, 6, 31⟩) (suf := [⟨0, 5, 10, 36⟩]) rfl (fun y hy => by cases hy) rfl (by decide) clL_31 (OL_in (T2 (List.mem_of_getElem? (i := 142) rfl)) rfl) (Or.inl ⟨dL_trainIn_6, rfl, 1, rfl, ?_⟩) (by decide) rfl
      refine J_bipush (v := (-77)) dL_trainIn_7 (by decide) ?_
      exact J_ireturn dL_trainIn_9 rfl rfl (HV_no q2 hc (by decide) rfl)
    · have q2 := q
      rw [hc]
      refine JX_catch (i := 2) (pre := [⟨0, 5, 6, 31⟩]) (x := ⟨0, 5, 10, 36⟩) (suf := []) rfl (List.forall_mem_cons.mpr ⟨Or.inr ⟨by decide, _, clL_31, List.mem_of_getElem? (i := 15) rfl⟩, fun y hy => by cases hy⟩) rfl (by decide) clL_36 (OL_in (T2 (List.mem_of_getElem? (i := 158) rfl)) rfl) (Or.inl ⟨dL_trainIn_10, rfl, 1, rfl, ?_⟩) (by decide) rfl
      refine J_bipush (v := (-75)) dL_trainIn_11 (by decide) ?_
      exact J_ireturn dL_trainIn_13 rfl rfl (HV_no q2 hc (by decide) rfl)

theorem c_L_reservedBy {w : Wd} {x : Nat} {G : Gme} (hX : RepX w x G) (y : Int32) : MC 8 mL_reservedBy 1 6 [.ref x, .int y] w (HV w x (gQ G (onI (sNb (gS G)) y (fun i => opA (hOf (gS G) i)))).2.2 (lvR (gQ G (onI (sNb (gS G)) y (fun i => opA (hOf (gS G) i)))))) := by
  refine MC_ofH pnL rfl (fun v hv => by simp only [List.mem_cons, List.not_mem_nil, or_false] at hv; rcases hv with rfl | rfl <;> rfl) (Nat.le_of_ble_eq_true rfl) (fun E w h => RP_no E w h) ?_
  show J 8 mL_reservedBy 0 [some (.ref x), some (.int y), none] [] w 1 6 _
  refine J_aload_n dL_reservedBy_0 rfl rfl ?_
  refine J_iload_n dL_reservedBy_1 rfl rfl ?_
  refine J_callV (mi := mL_reservedBy) (pc := 2) (kb := 0) (sb := 0) dL_reservedBy_2 YX8_reservedBy kL_66 hX.rc (c_X8_reservedBy hX y) rfl rfl (Nat.le_of_ble_eq_true rfl) (by decide) (fun v w1 q => ?_) (fun E w1 q => ?_)
  · obtain ⟨e, rfl⟩ := GXo_V q
    exact J_ireturn dL_reservedBy_5 rfl rfl (HV_ok q e rfl)
  · obtain ⟨e, rfl⟩ := GXo_E q
    rcases lc_reservedBy G y with hc | hc | hc
    · exact absurd hc e
    · have q2 := q
      rw [hc]
      refine JX_catch (i := 2) (pre := []) (x := ⟨0, 5, 6, 31⟩) (suf := [⟨0, 5, 10, 36⟩]) rfl (fun y hy => by cases hy) rfl (by decide) clL_31 (OL_in (T2 (List.mem_of_getElem? (i := 142) rfl)) rfl) (Or.inl ⟨dL_reservedBy_6, rfl, 1, rfl, ?_⟩) (by decide) rfl
      refine J_bipush (v := (-77)) dL_reservedBy_7 (by decide) ?_
      exact J_ireturn dL_reservedBy_9 rfl rfl (HV_no q2 hc (by decide) rfl)
    · have q2 := q
      rw [hc]
      refine JX_catch (i := 2) (pre := [⟨0, 5, 6, 31⟩]) (x := ⟨0, 5, 10, 36⟩) (suf := []) rfl (List.forall_mem_cons.mpr ⟨Or.inr ⟨by decide, _, clL_31, List.mem_of_getElem? (i := 15) rfl⟩, fun y hy => by cases hy⟩) rfl (by decide) clL_36 (OL_in (T2 (List.mem_of_getElem? (i := 158) rfl)) rfl) (Or.inl ⟨dL_reservedBy_10, rfl, 1, rfl, ?_⟩) (by decide) rfl
      refine J_bipush (v := (-75)) dL_reservedBy_11 (by decide) ?_
      exact J_ireturn dL_reservedBy_13 rfl rfl (HV_no q2 hc (by decide) rfl)

theorem c_L_goal {w : Wd} {x : Nat} {G : Gme} (hX : RepX w x G) (y : Int32) : MC 8 mL_goal 1 6 [.ref x, .int y] w (HV w x (gQ G (onI (sNt (gS G)) y (fun i => opA (sGo (gS G) i)))).2.2 (lvR (gQ G (onI (sNt (gS G)) y (fun i => opA (sGo (gS G) i)))))) := by
  refine MC_ofH pnL rfl (fun v hv => by simp only [List.mem_cons, List.not_mem_nil, or_false] at hv; rcases hv with rfl | rfl <;> rfl) (Nat.le_of_ble_eq_true rfl) (fun E w h => RP_no E w h) ?_
  show J 8 mL_goal 0 [some (.ref x), some (.int y), none] [] w 1 6 _
  refine J_aload_n dL_goal_0 rfl rfl ?_
  refine J_iload_n dL_goal_1 rfl rfl ?_
  refine J_callV (mi := mL_goal) (pc := 2) (kb := 0) (sb := 0) dL_goal_2 YX8_goal kL_112 hX.rc (c_X8_goal hX y) rfl rfl (Nat.le_of_ble_eq_true rfl) (by decide) (fun v w1 q => ?_) (fun E w1 q => ?_)
  · obtain ⟨e, rfl⟩ := GXo_V q
    exact J_ireturn dL_goal_5 rfl rfl (HV_ok q e rfl)
  · obtain ⟨e, rfl⟩ := GXo_E q
    rcases lc_goal G y with hc | hc | hc
    · exact absurd hc e
    · have q2 := q
      rw [hc]
      refine JX_catch (i := 2) (pre := []) (x := ⟨0, 5, 6, 31⟩) (suf := [⟨0, 5, 10, 36⟩]) rfl (fun y hy => by cases hy) rfl (by decide) clL_31 (OL_in (T2 (List.mem_of_getElem? (i := 142) rfl)) rfl) (Or.inl ⟨dL_goal_6, rfl, 1, rfl, ?_⟩) (by decide) rfl
      refine J_bipush (v := (-77)) dL_goal_7 (by decide) ?_
      exact J_ireturn dL_goal_9 rfl rfl (HV_no q2 hc (by decide) rfl)
    · have q2 := q
      rw [hc]
      refine JX_catch (i := 2) (pre := [⟨0, 5, 6, 31⟩]) (x := ⟨0, 5, 10, 36⟩) (suf := []) rfl (List.forall_mem_cons.mpr ⟨Or.inr ⟨by decide, _, clL_31, List.mem_of_getElem? (i := 15) rfl⟩, fun y hy => by cases hy⟩) rfl (by decide) clL_36 (OL_in (T2 (List.mem_of_getElem? (i := 158) rfl)) rfl) (Or.inl ⟨dL_goal_10, rfl, 1, rfl, ?_⟩) (by decide) rfl
      refine J_bipush (v := (-75)) dL_goal_11 (by decide) ?_
      exact J_ireturn dL_goal_13 rfl rfl (HV_no q2 hc (by decide) rfl)

theorem c_L_nextBlock {w : Wd} {x : Nat} {G : Gme} (hX : RepX w x G) (y : Int32) : MC 8 mL_nextBlock 1 6 [.ref x, .int y] w (HV w x (gQ G (onI (sNt (gS G)) y (fun i => opA (nx (gS G) i)))).2.2 (lvR (gQ G (onI (sNt (gS G)) y (fun i => opA (nx (gS G) i)))))) := by
  refine MC_ofH pnL rfl (fun v hv => by simp only [List.mem_cons, List.not_mem_nil, or_false] at hv; rcases hv with rfl | rfl <;> rfl) (Nat.le_of_ble_eq_true rfl) (fun E w h => RP_no E w h) ?_
  show J 8 mL_nextBlock 0 [some (.ref x), some (.int y), none] [] w 1 6 _
  refine J_aload_n dL_nextBlock_0 rfl rfl ?_
  refine J_iload_n dL_nextBlock_1 rfl rfl ?_
  refine J_callV (mi := mL_nextBlock) (pc := 2) (kb := 0) (sb := 0) dL_nextBlock_2 YX8_nextBlock kL_79 hX.rc (c_X8_nextBlock hX y) rfl rfl (Nat.le_of_ble_eq_true rfl) (by decide) (fun v w1 q => ?_) (fun E w1 q => ?_)
  · obtain ⟨e, rfl⟩ := GXo_V q
    exact J_ireturn dL_nextBlock_5 rfl rfl (HV_ok q e rfl)
  · obtain ⟨e, rfl⟩ := GXo_E q
    rcases lc_nextBlock G y with hc | hc | hc
    · exact absurd hc e
    · have q2 := q
      rw [hc]
      refine JX_catch (i := 2) (pre := []) (x := ⟨0, 5, 6, 31⟩) (suf := [⟨0, 5, 10, 36⟩]) rfl (fun y hy => by cases hy) rfl (by decide) clL_31 (OL_in (T2 (List.mem_of_getElem? (i := 142) rfl)) rfl) (Or.inl ⟨dL_nextBlock_6, rfl, 1, rfl, ?_⟩) (by decide) rfl
      refine J_bipush (v := (-77)) dL_nextBlock_7 (by decide) ?_
      exact J_ireturn dL_nextBlock_9 rfl rfl (HV_no q2 hc (by decide) rfl)
    · have q2 := q
      rw [hc]
      refine JX_catch (i := 2) (pre := [⟨0, 5, 6, 31⟩]) (x := ⟨0, 5, 10, 36⟩) (suf := []) rfl (List.forall_mem_cons.mpr ⟨Or.inr ⟨by decide, _, clL_31, List.mem_of_getElem? (i := 15) rfl⟩, fun y hy => by cases hy⟩) rfl (by decide) clL_36 (OL_in (T2 (List.mem_of_getElem? (i := 158) rfl)) rfl) (Or.inl ⟨dL_nextBlock_10, rfl, 1, rfl, ?_⟩) (by decide) rfl
      refine J_bipush (v := (-75)) dL_nextBlock_11 (by decide) ?_
      exact J_ireturn dL_nextBlock_13 rfl rfl (HV_no q2 hc (by decide) rfl)

theorem c_L_nearestCushion {w : Wd} {x : Nat} {G : Gme} (hX : RepX w x G) (y : Int32) : MC 8 mL_nearestCushion 1 6 [.ref x, .int y] w (HV w x (gQ G (onI (sNb (gS G)) y (fun i => opA (nrC (gS G) i)))).2.2 (lvR (gQ G (onI (sNb (gS G)) y (fun i => opA (nrC (gS G) i)))))) := by
  refine MC_ofH pnL rfl (fun v hv => by simp only [List.mem_cons, List.not_mem_nil, or_false] at hv; rcases hv with rfl | rfl <;> rfl) (Nat.le_of_ble_eq_true rfl) (fun E w h => RP_no E w h) ?_
  show J 8 mL_nearestCushion 0 [some (.ref x), some (.int y), none] [] w 1 6 _
  refine J_aload_n dL_nearestCushion_0 rfl rfl ?_
  refine J_iload_n dL_nearestCushion_1 rfl rfl ?_
  refine J_callV (mi := mL_nearestCushion) (pc := 2) (kb := 0) (sb := 0) dL_nearestCushion_2 YX8_nearestCushion kL_82 hX.rc (c_X8_nearestCushion hX y) rfl rfl (Nat.le_of_ble_eq_true rfl) (by decide) (fun v w1 q => ?_) (fun E w1 q => ?_)
  · obtain ⟨e, rfl⟩ := GXo_V q
    exact J_ireturn dL_nearestCushion_5 rfl rfl (HV_ok q e rfl)
  · obtain ⟨e, rfl⟩ := GXo_E q
    rcases lc_nearestCushion G y with hc | hc | hc
    · exact absurd hc e
    · have q2 := q
      rw [hc]
      refine JX_catch (i := 2) (pre := []) (x := ⟨0, 5, 6, 31⟩) (suf := [⟨0, 5, 10, 36⟩]) rfl (fun y hy => by cases hy) rfl (by decide) clL_31 (OL_in (T2 (List.mem_of_getElem? (i := 142) rfl)) rfl) (Or.inl ⟨dL_nearestCushion_6, rfl, 1, rfl, ?_⟩) (by decide) rfl
      refine J_bipush (v := (-77)) dL_nearestCushion_7 (by decide) ?_
      exact J_ireturn dL_nearestCushion_9 rfl rfl (HV_no q2 hc (by decide) rfl)
    · have q2 := q
      rw [hc]
      refine JX_catch (i := 2) (pre := [⟨0, 5, 6, 31⟩]) (x := ⟨0, 5, 10, 36⟩) (suf := []) rfl (List.forall_mem_cons.mpr ⟨Or.inr ⟨by decide, _, clL_31, List.mem_of_getElem? (i := 15) rfl⟩, fun y hy => by cases hy⟩) rfl (by decide) clL_36 (OL_in (T2 (List.mem_of_getElem? (i := 158) rfl)) rfl) (Or.inl ⟨dL_nearestCushion_10, rfl, 1, rfl, ?_⟩) (by decide) rfl
      refine J_bipush (v := (-75)) dL_nearestCushion_11 (by decide) ?_
      exact J_ireturn dL_nearestCushion_13 rfl rfl (HV_no q2 hc (by decide) rfl)

theorem c_L_blockedBy {w : Wd} {x : Nat} {G : Gme} (hX : RepX w x G) (y : Int32) : MC 8 mL_blockedBy 1 6 [.ref x, .int y] w (HV w x (gQ G (onI (sNt (gS G)) y (fun i => opA (bk (gS G) i)))).2.2 (lvR (gQ G (onI (sNt (gS G)) y (fun i => opA (bk (gS G) i)))))) := by
  refine MC_ofH pnL rfl (fun v hv => by simp only [List.mem_cons, List.not_mem_nil, or_false] at hv; rcases hv with rfl | rfl <;> rfl) (Nat.le_of_ble_eq_true rfl) (fun E w h => RP_no E w h) ?_
  show J 8 mL_blockedBy 0 [some (.ref x), some (.int y), none] [] w 1 6 _
  refine J_aload_n dL_blockedBy_0 rfl rfl ?_
  refine J_iload_n dL_blockedBy_1 rfl rfl ?_
  refine J_callV (mi := mL_blockedBy) (pc := 2) (kb := 0) (sb := 0) dL_blockedBy_2 YX8_blockedBy kL_124 hX.rc (c_X8_blockedBy hX y) rfl rfl (Nat.le_of_ble_eq_true rfl) (by decide) (fun v w1 q => ?_) (fun E w1 q => ?_)
  · obtain ⟨e, rfl⟩ := GXo_V q
    exact J_ireturn dL_blockedBy_5 rfl rfl (HV_ok q e rfl)
  · obtain ⟨e, rfl⟩ := GXo_E q
    rcases lc_blockedBy G y with hc | hc | hc
    · exact absurd hc e
    · have q2 := q
      rw [hc]
      refine JX_catch (i := 2) (pre := []) (x := ⟨0, 5, 6, 31⟩) (suf := [⟨0, 5, 10, 36⟩]) rfl (fun y hy => by cases hy) rfl (by decide) clL_31 (OL_in (T2 (List.mem_of_getElem? (i := 142) rfl)) rfl) (Or.inl ⟨dL_blockedBy_6, rfl, 1, rfl, ?_⟩) (by decide) rfl
      refine J_bipush (v := (-77)) dL_blockedBy_7 (by decide) ?_
      exact J_ireturn dL_blockedBy_9 rfl rfl (HV_no q2 hc (by decide) rfl)
    · have q2 := q
      rw [hc]
      refine JX_catch (i := 2) (pre := [⟨0, 5, 6, 31⟩]) (x := ⟨0, 5, 10, 36⟩) (suf := []) rfl (List.forall_mem_cons.mpr ⟨Or.inr ⟨by decide, _, clL_31, List.mem_of_getElem? (i := 15) rfl⟩, fun y hy => by cases hy⟩) rfl (by decide) clL_36 (OL_in (T2 (List.mem_of_getElem? (i := 158) rfl)) rfl) (Or.inl ⟨dL_blockedBy_10, rfl, 1, rfl, ?_⟩) (by decide) rfl
      refine J_bipush (v := (-75)) dL_blockedBy_11 (by decide) ?_
      exact J_ireturn dL_blockedBy_13 rfl rfl (HV_no q2 hc (by decide) rfl)

end JHELP

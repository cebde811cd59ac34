/-! THE MODEL WHOLE -/
section JMWHOLE
theorem c_X9_ends {w : Wd} {m : Nat} {x : Nat → Int32} {G : Gme} {S : St} (hI : RepI w m x G S) {c : Nat} (hc : c < 2 ^ 31) : MC 3 mX9_ends 0 0 [.ref m, .int (nI c)] w (RP (fun v w' => Fr w w' m (m + 11) ∧ (∃ y, v = some (.int y) ∧ (c = 0 → y = x 17)) ∧ (c = 0 → RepM w' m (gPush G S) 0) ∧ (c ≠ 0 → S = gS G → RepM w' m G c))) := by
  obtain ⟨f2, f3, f4, f5, f6, f7, f8, hA, ⟨m2, m3, m4, m5, m6, m7, m8⟩, hK, hx0, hRx, hRd⟩ := id hI
  obtain ⟨x6, x7, x13, x14, x15, x16⟩ := id hRx
  obtain ⟨hV, hP, hT, hO, ⟨hb8, hb60, hb14⟩, hE, hF⟩ := id hRd
  obtain ⟨f, g, h, mO, mS, mF, mK, hfit⟩ := id hA
  have hwf := hfit.2.2.2.2
  refine MC_j pnX9 rfl rfl rfl (Or.inr (fun E w h => RP_no E w h)) ?_
  show J 3 mX9_ends 0 [some (.ref m), some (.int (nI c))] [] w 0 0 _
  refine J_iload_n dX9_ends_0 rfl rfl ?_
  refine J_if_ne (tgt := 15) dX9_ends_1 (by decide) (fun h1 => ?_) (fun h1 => ?_)
  · skip
    have h1 := mt (nI_eq (b := 0) (by omega) (by omega)).mpr h1
    refine J_aload_n dX9_ends_15 rfl rfl ?_
    refine J_iload_n dX9_ends_16 rfl rfl ?_
    refine K_callVp dX9_ends_17 YX9_fails kX9_60 (rc_of mO rfl) (c_X9_fails mO _) rfl rfl (Nat.le_of_ble_eq_true rfl) (by decide) (fun v17 w17 q17 => ?_)
    obtain ⟨rfl, u17⟩ := q17
    exact J_ireturn dX9_ends_20 rfl rfl (RP_i ⟨(Fr.rf w m (m + 11)).up u17 (by omega) (by omega), ⟨_, rfl, fun z => absurd z h1⟩, fun z => absurd z h1, fun _ hS => ⟨_, f2, f3, f4, f5, f6, f7, f8, ⟨f, g, h, u17.1, (u17.2.1 _ (by omega)).trans mS, (u17.2.1 _ (by omega)).trans mF, (u17.2.1 _ (by omega)).trans mK, hS ▸ hfit⟩, ⟨(u17.2.1 _ (by omega)).trans m2, (u17.2.1 _ (by omega)).trans m3, (u17.2.1 _ (by omega)).trans m4, (u17.2.1 _ (by omega)).trans m5, (u17.2.1 _ (by omega)).trans m6, (u17.2.1 _ (by omega)).trans m7, (u17.2.1 _ (by omega)).trans m8⟩, up_s _ _ _, hRx.of (fun j h1 _ _ _ _ _ => up_n _ _ h1), hRd⟩⟩)
  · skip
    have h1 := (nI_eq (b := 0) (by omega) (by omega)).mp h1
    refine J_aload_n dX9_ends_4 rfl rfl ?_
    refine J_aload_n dX9_ends_5 rfl rfl ?_
    refine J_getfield dX9_ends_6 fX9_53 mO rfl ?_
    refine K_callVp dX9_ends_9 YX9_changed kX9_56 (rc_of mO rfl) (c_X9_changed mO m2 m4 x6 hb8 hP hK _) rfl rfl (Nat.le_of_ble_eq_true rfl) (by decide) (fun v9 w9 q9 => ?_)
    obtain ⟨rfl, hX, hX2, mO9, f4', m4', hP'⟩ := q9
    have hFr9 : Fr w w9 m (m + 11) := ⟨fun b hb => hX b (by omega) (by omega), hX2⟩
    refine J_goto (tgt := 20) dX9_ends_12 (by decide) ?_
    exact J_ireturn dX9_ends_20 rfl rfl (RP_i ⟨hFr9, ⟨_, rfl, fun _ => rfl⟩, fun _ => ⟨_, f2, f3, f4', f5, f6, f7, f8, ⟨f, g, h, mO9, (hX _ (by omega) (by omega)).trans mS, (hX _ (by omega) (by omega)).trans mF, (hX _ (by omega) (by omega)).trans mK, hfit⟩, ⟨(hX _ (by omega) (by omega)).trans m2, (hX _ (by omega) (by omega)).trans m3, m4', (hX _ (by omega) (by omega)).trans m5, (hX _ (by omega) (by omega)).trans m6, (hX _ (by omega) (by omega)).trans m7, (hX _ (by omega) (by omega)).trans m8⟩, (up_n _ _ (by decide)).trans hx0, ⟨up_s _ _ _, (up_n _ _ (by decide)).trans x7, (up_n _ _ (by decide)).trans x13, (up_n _ _ (by decide)).trans x14, (up_n _ _ (by decide)).trans x15, (up_n _ _ (by decide)).trans x16⟩, ⟨hV, hP', hT, hO, ⟨(pushN_le hb8).1, hb60, hb14⟩, hE, hF⟩⟩, fun z => absurd h1 z⟩)

end JMWHOLE

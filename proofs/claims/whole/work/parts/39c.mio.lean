/-! THE MODEL: output, input, what is kept -/
section JMIO
theorem feed_60 {G : Gme} {c : Nat} (h : gN G = 60) : gFeed G c = (3, 0, G) := if_pos h
theorem feed_ok {G : Gme} {c : Nat} (h : ¬ gN G = 60) : gFeed G c = (0, nI (gN G + 1), (G.1, G.2.1, gO G, (va_up (gT G) (gN G) c, gN G + 1), G.2.2.2.2)) := if_neg h
theorem c_X9_feed {w : Wd} {m : Nat} {G : Gme} {th : Nat} (hM : RepM w m G th) {c : Nat} (hc : c < 65536) : MC 2 mX9_feed 0 0 [.ref m, .int (nI c)] w (GM w m [3] (gFeed G c)) := by
  obtain ⟨x, f2, f3, f4, f5, f6, f7, f8, hA, ⟨m2, m3, m4, m5, m6, m7, m8⟩, hx0, hRx, hRd⟩ := id hM
  obtain ⟨x6, x7, x13, x14, x15, x16⟩ := id hRx
  obtain ⟨hV, hP, hT, hO, ⟨hb8, hb60, hb14⟩, hE, hF⟩ := id hRd
  obtain ⟨f, g, h, mO, mS, mF, mK, hfit⟩ := id hA
  have hwf := hfit.2.2.2.2
  have hnb := hwf.nb
  have hnt := hwf.nt
  refine MC_j pnX9 rfl rfl rfl (Or.inr (fun E w h => RP_no E w h)) ?_
  show J 2 mX9_feed 0 [some (.ref m), some (.int (nI c))] [] w 0 0 _
  refine J_aload_n dX9_feed_0 rfl rfl ?_
  refine J_aload_n dX9_feed_1 rfl rfl ?_
  refine J_getfield dX9_feed_2 fX9_199 mO rfl ?_
  rw [x13]
  refine J_bipush (v := nI 60) dX9_feed_5 (by decide) ?_
  refine J_icmp_ne (tgt := 14) dX9_feed_7 (by decide) (fun h7 => ?_) (fun h7 => ?_)
  · skip
    have h7 := mt (nI_eq (by omega) (by omega)).mpr h7
    refine J_iconst (v := nI 0) dX9_feed_14 (by decide) ?_
    refine K_putI dX9_feed_15 fX9_47 (Or.inl rfl) mO (Nat.le_of_ble_eq_true rfl) (fun w1 u1 => ?_)
    have m2 := (u1.2.1 _ (by omega)).trans m2
    have m3 := (u1.2.1 _ (by omega)).trans m3
    have m4 := (u1.2.1 _ (by omega)).trans m4
    have m5 := (u1.2.1 _ (by omega)).trans m5
    have m6 := (u1.2.1 _ (by omega)).trans m6
    have m7 := (u1.2.1 _ (by omega)).trans m7
    have m8 := (u1.2.1 _ (by omega)).trans m8
    have mF := (u1.2.1 _ (by omega)).trans mF
    have mK := (u1.2.1 _ (by omega)).trans mK
    have mO := u1.1
    have mS := (u1.2.1 _ (by omega)).trans mS
    have mO : w1.1 m = .inr (9, [.int (nI 0), .ref (m + 1), .ref (m + 2), .ref (m + 3), .ref (m + 4), .ref (m + 5), .int (x 6), .int (x 7), .ref (m + 6), .ref (m + 7), .ref (m + 8), .ref (m + 9), .ref (m + 10), .int (x 13), .int (x 14), .int (x 15), .int (x 16), .int (x 17), .int (x 18), .int (x 19), .int (x 20), .int (x 21)]) := mO
    refine J_aload_n dX9_feed_18 rfl rfl ?_
    refine J_getfield dX9_feed_19 fX9_47 mO rfl ?_
    refine J_if_le (tgt := 27) dX9_feed_22 (by decide) (fun h22 => ?_) (fun h22 => absurd h22 (by decide))
    refine J_aload_n dX9_feed_27 rfl rfl ?_
    refine J_getfield dX9_feed_28 fX9_25 mO rfl ?_
    refine J_aload_n dX9_feed_31 rfl rfl ?_
    refine J_getfield dX9_feed_32 fX9_199 mO rfl ?_
    rw [x13]
    refine J_iload_n dX9_feed_35 rfl rfl ?_
    refine K_iast dX9_feed_36 m6 (by omega) (by decide) (fun w2 u2 => ?_)
    have m2 := (u2.2.1 _ (by omega)).trans m2
    have m3 := (u2.2.1 _ (by omega)).trans m3
    have m4 := (u2.2.1 _ (by omega)).trans m4
    have m5 := (u2.2.1 _ (by omega)).trans m5
    have m6 := u2.1
    have m7 := (u2.2.1 _ (by omega)).trans m7
    have m8 := (u2.2.1 _ (by omega)).trans m8
    have mF := (u2.2.1 _ (by omega)).trans mF
    have mK := (u2.2.1 _ (by omega)).trans mK
    have mO := (u2.2.1 _ (by omega)).trans mO
    have mS := (u2.2.1 _ (by omega)).trans mS
    refine J_aload_n dX9_feed_37 rfl rfl ?_
    refine J_dup dX9_feed_38 rfl ?_
    refine J_getfield dX9_feed_39 fX9_199 mO rfl ?_
    rw [x13]
    refine J_iconst (v := nI 1) dX9_feed_42 (by decide) ?_
    refine K_iadd (v := nI (gN G + 1)) dX9_feed_43 (nI_add _ _) ?_
    refine K_putI dX9_feed_44 fX9_199 (Or.inl rfl) mO (Nat.le_of_ble_eq_true rfl) (fun w3 u3 => ?_)
    have m2 := (u3.2.1 _ (by omega)).trans m2
    have m3 := (u3.2.1 _ (by omega)).trans m3
    have m4 := (u3.2.1 _ (by omega)).trans m4
    have m5 := (u3.2.1 _ (by omega)).trans m5
    have m6 := (u3.2.1 _ (by omega)).trans m6
    have m7 := (u3.2.1 _ (by omega)).trans m7
    have m8 := (u3.2.1 _ (by omega)).trans m8
    have mF := (u3.2.1 _ (by omega)).trans mF
    have mK := (u3.2.1 _ (by omega)).trans mK
    have mO := u3.1
    have mS := (u3.2.1 _ (by omega)).trans mS
    have mO : w3.1 m = .inr (9, [.int (nI 0), .ref (m + 1), .ref (m + 2), .ref (m + 3), .ref (m + 4), .ref (m + 5), .int (x 6), .int (x 7), .ref (m + 6), .ref (m + 7), .ref (m + 8), .ref (m + 9), .ref (m + 10), .int (nI (gN G + 1)), .int (x 14), .int (x 15), .int (x 16), .int (x 17), .int (x 18), .int (x 19), .int (x 20), .int (x 21)]) := mO
    refine J_aload_n dX9_feed_47 rfl rfl ?_
    refine J_getfield dX9_feed_48 fX9_199 mO rfl ?_
    exact J_ireturn dX9_feed_51 rfl rfl (GM_of (c := 0) (v := nI (gN G + 1)) (G' := (G.1, G.2.1, gO G, (va_up (gT G) (gN G) c, gN G + 1), G.2.2.2.2)) (th := 0) (feed_ok h7) (fun _ => rfl) ((((Fr.rf w m (m + 11)).up u1 (by omega) (by omega)).up u2 (by omega) (by omega)).up u3 (by omega) (by omega)) (by decide) ⟨va_up (va_up x 0 (nI 0)) 13 (nI (gN G + 1)), _, _, _, _, _, _, _, ⟨_, _, _, mO, mS, mF, mK, hfit⟩, ⟨m2, m3, m4, m5, m6, m7, m8⟩, ((up_n _ _ (by decide)).trans (up_s _ _ _)), ⟨((up_n _ _ (by decide)).trans ((up_n _ _ (by decide)).trans x6)), ((up_n _ _ (by decide)).trans ((up_n _ _ (by decide)).trans x7)), (up_s _ _ _), ((up_n _ _ (by decide)).trans ((up_n _ _ (by decide)).trans x14)), ((up_n _ _ (by decide)).trans ((up_n _ _ (by decide)).trans x15)), ((up_n _ _ (by decide)).trans ((up_n _ _ (by decide)).trans x16))⟩, ⟨hV, hP, (fun j hj => by
        have hj : j < gN G + 1 := hj
        show va_up f6 (gN G) (nI c) j = nI (va_up (gT G) (gN G) c j) ∧ va_up (gT G) (gN G) c j < 65536
        by_cases e : j = gN G
        · subst e; rw [up_s, up_s]; exact ⟨rfl, hc⟩
        · rw [up_n _ _ e, up_n _ _ e]; exact hT j (by omega)), hO, ⟨hb8, by show gN G + 1 ≤ 60; omega, hb14⟩, hE, hF⟩⟩)
  · skip
    have h7 := (nI_eq (by omega) (by omega)).mp h7
    refine J_iconst (v := nI 1) dX9_feed_10 (by decide) ?_
    refine J_goto (tgt := 15) dX9_feed_11 (by decide) ?_
    refine K_putI dX9_feed_15 fX9_47 (Or.inl rfl) mO (Nat.le_of_ble_eq_true rfl) (fun w1 u1 => ?_)
    have m2 := (u1.2.1 _ (by omega)).trans m2
    have m3 := (u1.2.1 _ (by omega)).trans m3
    have m4 := (u1.2.1 _ (by omega)).trans m4
    have m5 := (u1.2.1 _ (by omega)).trans m5
    have m6 := (u1.2.1 _ (by omega)).trans m6
    have m7 := (u1.2.1 _ (by omega)).trans m7
    have m8 := (u1.2.1 _ (by omega)).trans m8
    have mF := (u1.2.1 _ (by omega)).trans mF
    have mK := (u1.2.1 _ (by omega)).trans mK
    have mO := u1.1
    have mS := (u1.2.1 _ (by omega)).trans mS
    have mO : w1.1 m = .inr (9, [.int (nI 1), .ref (m + 1), .ref (m + 2), .ref (m + 3), .ref (m + 4), .ref (m + 5), .int (x 6), .int (x 7), .ref (m + 6), .ref (m + 7), .ref (m + 8), .ref (m + 9), .ref (m + 10), .int (x 13), .int (x 14), .int (x 15), .int (x 16), .int (x 17), .int (x 18), .int (x 19), .int (x 20), .int (x 21)]) := mO
    refine J_aload_n dX9_feed_18 rfl rfl ?_
    refine J_getfield dX9_feed_19 fX9_47 mO rfl ?_
    refine J_if_le (tgt := 27) dX9_feed_22 (by decide) (fun h22 => absurd h22 (by decide)) (fun h22 => ?_)
    refine J_iconst (v := nI 0) dX9_feed_25 (by decide) ?_
    exact J_ireturn dX9_feed_26 rfl rfl (GM_of (c := 3) (v := 0) (G' := G) (th := 1) (feed_60 h7) (fun z => absurd z (by decide)) ((Fr.rf w m (m + 11)).up u1 (by omega) (by omega)) (by decide) ⟨va_up x 0 (nI 1), _, _, _, _, _, _, _, ⟨_, _, _, mO, mS, mF, mK, hfit⟩, ⟨m2, m3, m4, m5, m6, m7, m8⟩, (up_s _ _ _), ⟨((up_n _ _ (by decide)).trans x6), ((up_n _ _ (by decide)).trans x7), ((up_n _ _ (by decide)).trans x13), ((up_n _ _ (by decide)).trans x14), ((up_n _ _ (by decide)).trans x15), ((up_n _ _ (by decide)).trans x16)⟩, hRd⟩)

theorem c_X9_errorPosition {w : Wd} {m : Nat} {G : Gme} {th : Nat} (hM : RepM w m G th)  : MC 3 mX9_errorPosition 0 0 [.ref m] w (GM w m [5] (gQ G (opA (gE G)))) := by
  obtain ⟨x, f2, f3, f4, f5, f6, f7, f8, hA, ⟨m2, m3, m4, m5, m6, m7, m8⟩, hx0, hRx, hRd⟩ := id hM
  obtain ⟨x6, x7, x13, x14, x15, x16⟩ := id hRx
  obtain ⟨hV, hP, hT, hO, ⟨hb8, hb60, hb14⟩, hE, hF⟩ := id hRd
  obtain ⟨f, g, h, mO, mS, mF, mK, hfit⟩ := id hA
  have hwf := hfit.2.2.2.2
  have hnb := hwf.nb
  have hnt := hwf.nt
  refine MC_j pnX9 rfl rfl rfl (Or.inr (fun E w h => RP_no E w h)) ?_
  show J 3 mX9_errorPosition 0 [some (.ref m)] [] w 0 0 _
  refine J_aload_n dX9_errorPosition_0 rfl rfl ?_
  refine J_iconst (v := nI 0) dX9_errorPosition_1 (by decide) ?_
  refine K_putI dX9_errorPosition_2 fX9_47 (Or.inl rfl) mO (Nat.le_of_ble_eq_true rfl) (fun w1 u1 => ?_)
  have m2 := (u1.2.1 _ (by omega)).trans m2
  have m3 := (u1.2.1 _ (by omega)).trans m3
  have m4 := (u1.2.1 _ (by omega)).trans m4
  have m5 := (u1.2.1 _ (by omega)).trans m5
  have m6 := (u1.2.1 _ (by omega)).trans m6
  have m7 := (u1.2.1 _ (by omega)).trans m7
  have m8 := (u1.2.1 _ (by omega)).trans m8
  have mF := (u1.2.1 _ (by omega)).trans mF
  have mK := (u1.2.1 _ (by omega)).trans mK
  have mO := u1.1
  have mS := (u1.2.1 _ (by omega)).trans mS
  have mO : w1.1 m = .inr (9, [.int (nI 0), .ref (m + 1), .ref (m + 2), .ref (m + 3), .ref (m + 4), .ref (m + 5), .int (x 6), .int (x 7), .ref (m + 6), .ref (m + 7), .ref (m + 8), .ref (m + 9), .ref (m + 10), .int (x 13), .int (x 14), .int (x 15), .int (x 16), .int (x 17), .int (x 18), .int (x 19), .int (x 20), .int (x 21)]) := mO
  refine J_aload_n dX9_errorPosition_5 rfl rfl ?_
  refine J_getfield dX9_errorPosition_6 fX9_40 mO rfl ?_
  rw [x15]
  refine J_iconst (v := (-1)) dX9_errorPosition_9 (by decide) ?_
  refine J_icmp_ne (tgt := 21) dX9_errorPosition_10 (by decide) (fun h10 => ?_) (fun h10 => ?_)
  · skip
    obtain ⟨k, e10⟩ : ∃ k_, gE G = some k_ := by
      cases q : gE G with
      | none => exact absurd ((oI_m1 (fun k hk => by have := hE k hk; omega)).mpr q) h10
      | some k_ => exact ⟨k_, rfl⟩
    refine J_aload_n dX9_errorPosition_21 rfl rfl ?_
    refine J_getfield dX9_errorPosition_22 fX9_40 mO rfl ?_
    rw [x15, e10, oI_s]
    exact J_ireturn dX9_errorPosition_25 rfl rfl (GM_of (c := 0) (v := nI k) (G' := G) (th := 0) (gQ_eq (opA_ok rfl)) (fun _ => rfl) ((Fr.rf w m (m + 11)).up u1 (by omega) (by omega)) (by decide) ⟨va_up x 0 (nI 0), _, _, _, _, _, _, _, ⟨_, _, _, mO, mS, mF, mK, hfit⟩, ⟨m2, m3, m4, m5, m6, m7, m8⟩, (up_s _ _ _), ⟨((up_n _ _ (by decide)).trans x6), ((up_n _ _ (by decide)).trans x7), ((up_n _ _ (by decide)).trans x13), ((up_n _ _ (by decide)).trans x14), ((up_n _ _ (by decide)).trans x15), ((up_n _ _ (by decide)).trans x16)⟩, hRd⟩)
  · skip
    have e10 : gE G = none := (oI_m1 (fun k hk => by have := hE k hk; omega)).mp h10
    refine J_aload_n dX9_errorPosition_13 rfl rfl ?_
    refine J_iconst (v := nI 1) dX9_errorPosition_14 (by decide) ?_
    refine K_callVp dX9_errorPosition_15 YX9_fails kX9_60 (rc_of mO rfl) (c_X9_fails (x := va_up x 0 (nI 0)) mO _) rfl rfl (Nat.le_of_ble_eq_true rfl) (by decide) (fun v15 w15 q15 => ?_)
    obtain ⟨rfl, u15⟩ := q15
    have mO : w15.1 m = .inr (9, [.int (nI 1), .ref (m + 1), .ref (m + 2), .ref (m + 3), .ref (m + 4), .ref (m + 5), .int (x 6), .int (x 7), .ref (m + 6), .ref (m + 7), .ref (m + 8), .ref (m + 9), .ref (m + 10), .int (x 13), .int (x 14), .int (x 15), .int (x 16), .int (x 17), .int (x 18), .int (x 19), .int (x 20), .int (x 21)]) := u15.1
    have mS := (u15.2.1 _ (by omega)).trans mS
    have mF := (u15.2.1 _ (by omega)).trans mF
    have mK := (u15.2.1 _ (by omega)).trans mK
    have m2 := (u15.2.1 _ (by omega)).trans m2
    have m3 := (u15.2.1 _ (by omega)).trans m3
    have m4 := (u15.2.1 _ (by omega)).trans m4
    have m5 := (u15.2.1 _ (by omega)).trans m5
    have m6 := (u15.2.1 _ (by omega)).trans m6
    have m7 := (u15.2.1 _ (by omega)).trans m7
    have m8 := (u15.2.1 _ (by omega)).trans m8
    refine J_goto (tgt := 25) dX9_errorPosition_18 (by decide) ?_
    exact J_ireturn dX9_errorPosition_25 rfl rfl (GM_of (c := 5) (v := 0) (G' := G) (th := 1) (gQ_eq (opA_no e10)) (fun z => absurd z (by decide)) (((Fr.rf w m (m + 11)).up u1 (by omega) (by omega)).up u15 (by omega) (by omega)) (by decide) ⟨va_up x 0 (nI 1), _, _, _, _, _, _, _, ⟨_, _, _, mO, mS, mF, mK, hfit⟩, ⟨m2, m3, m4, m5, m6, m7, m8⟩, (up_s _ _ _), ⟨((up_n _ _ (by decide)).trans x6), ((up_n _ _ (by decide)).trans x7), ((up_n _ _ (by decide)).trans x13), ((up_n _ _ (by decide)).trans x14), ((up_n _ _ (by decide)).trans x15), ((up_n _ _ (by decide)).trans x16)⟩, hRd⟩)

theorem c_X9_failedCommand {w : Wd} {m : Nat} {G : Gme} {th : Nat} (hM : RepM w m G th)  : MC 3 mX9_failedCommand 0 0 [.ref m] w (GM w m [5] (gQ G (opA (gF G)))) := by
  obtain ⟨x, f2, f3, f4, f5, f6, f7, f8, hA, ⟨m2, m3, m4, m5, m6, m7, m8⟩, hx0, hRx, hRd⟩ := id hM
  obtain ⟨x6, x7, x13, x14, x15, x16⟩ := id hRx
  obtain ⟨hV, hP, hT, hO, ⟨hb8, hb60, hb14⟩, hE, hF⟩ := id hRd
  obtain ⟨f, g, h, mO, mS, mF, mK, hfit⟩ := id hA
  have hwf := hfit.2.2.2.2
  have hnb := hwf.nb
  have hnt := hwf.nt
  refine MC_j pnX9 rfl rfl rfl (Or.inr (fun E w h => RP_no E w h)) ?_
  show J 3 mX9_failedCommand 0 [some (.ref m)] [] w 0 0 _
  refine J_aload_n dX9_failedCommand_0 rfl rfl ?_
  refine J_iconst (v := nI 0) dX9_failedCommand_1 (by decide) ?_
  refine K_putI dX9_failedCommand_2 fX9_47 (Or.inl rfl) mO (Nat.le_of_ble_eq_true rfl) (fun w1 u1 => ?_)
  have m2 := (u1.2.1 _ (by omega)).trans m2
  have m3 := (u1.2.1 _ (by omega)).trans m3
  have m4 := (u1.2.1 _ (by omega)).trans m4
  have m5 := (u1.2.1 _ (by omega)).trans m5
  have m6 := (u1.2.1 _ (by omega)).trans m6
  have m7 := (u1.2.1 _ (by omega)).trans m7
  have m8 := (u1.2.1 _ (by omega)).trans m8
  have mF := (u1.2.1 _ (by omega)).trans mF
  have mK := (u1.2.1 _ (by omega)).trans mK
  have mO := u1.1
  have mS := (u1.2.1 _ (by omega)).trans mS
  have mO : w1.1 m = .inr (9, [.int (nI 0), .ref (m + 1), .ref (m + 2), .ref (m + 3), .ref (m + 4), .ref (m + 5), .int (x 6), .int (x 7), .ref (m + 6), .ref (m + 7), .ref (m + 8), .ref (m + 9), .ref (m + 10), .int (x 13), .int (x 14), .int (x 15), .int (x 16), .int (x 17), .int (x 18), .int (x 19), .int (x 20), .int (x 21)]) := mO
  refine J_aload_n dX9_failedCommand_5 rfl rfl ?_
  refine J_getfield dX9_failedCommand_6 fX9_44 mO rfl ?_
  rw [x16]
  refine J_iconst (v := (-1)) dX9_failedCommand_9 (by decide) ?_
  refine J_icmp_ne (tgt := 21) dX9_failedCommand_10 (by decide) (fun h10 => ?_) (fun h10 => ?_)
  · skip
    obtain ⟨k, e10⟩ : ∃ k_, gF G = some k_ := by
      cases q : gF G with
      | none => exact absurd ((oI_m1 (fun k hk => by have := hF k hk; omega)).mpr q) h10
      | some k_ => exact ⟨k_, rfl⟩
    refine J_aload_n dX9_failedCommand_21 rfl rfl ?_
    refine J_getfield dX9_failedCommand_22 fX9_44 mO rfl ?_
    rw [x16, e10, oI_s]
    exact J_ireturn dX9_failedCommand_25 rfl rfl (GM_of (c := 0) (v := nI k) (G' := G) (th := 0) (gQ_eq (opA_ok rfl)) (fun _ => rfl) ((Fr.rf w m (m + 11)).up u1 (by omega) (by omega)) (by decide) ⟨va_up x 0 (nI 0), _, _, _, _, _, _, _, ⟨_, _, _, mO, mS, mF, mK, hfit⟩, ⟨m2, m3, m4, m5, m6, m7, m8⟩, (up_s _ _ _), ⟨((up_n _ _ (by decide)).trans x6), ((up_n _ _ (by decide)).trans x7), ((up_n _ _ (by decide)).trans x13), ((up_n _ _ (by decide)).trans x14), ((up_n _ _ (by decide)).trans x15), ((up_n _ _ (by decide)).trans x16)⟩, hRd⟩)
  · skip
    have e10 : gF G = none := (oI_m1 (fun k hk => by have := hF k hk; omega)).mp h10
    refine J_aload_n dX9_failedCommand_13 rfl rfl ?_
    refine J_iconst (v := nI 1) dX9_failedCommand_14 (by decide) ?_
    refine K_callVp dX9_failedCommand_15 YX9_fails kX9_60 (rc_of mO rfl) (c_X9_fails (x := va_up x 0 (nI 0)) mO _) rfl rfl (Nat.le_of_ble_eq_true rfl) (by decide) (fun v15 w15 q15 => ?_)
    obtain ⟨rfl, u15⟩ := q15
    have mO : w15.1 m = .inr (9, [.int (nI 1), .ref (m + 1), .ref (m + 2), .ref (m + 3), .ref (m + 4), .ref (m + 5), .int (x 6), .int (x 7), .ref (m + 6), .ref (m + 7), .ref (m + 8), .ref (m + 9), .ref (m + 10), .int (x 13), .int (x 14), .int (x 15), .int (x 16), .int (x 17), .int (x 18), .int (x 19), .int (x 20), .int (x 21)]) := u15.1
    have mS := (u15.2.1 _ (by omega)).trans mS
    have mF := (u15.2.1 _ (by omega)).trans mF
    have mK := (u15.2.1 _ (by omega)).trans mK
    have m2 := (u15.2.1 _ (by omega)).trans m2
    have m3 := (u15.2.1 _ (by omega)).trans m3
    have m4 := (u15.2.1 _ (by omega)).trans m4
    have m5 := (u15.2.1 _ (by omega)).trans m5
    have m6 := (u15.2.1 _ (by omega)).trans m6
    have m7 := (u15.2.1 _ (by omega)).trans m7
    have m8 := (u15.2.1 _ (by omega)).trans m8
    refine J_goto (tgt := 25) dX9_failedCommand_18 (by decide) ?_
    exact J_ireturn dX9_failedCommand_25 rfl rfl (GM_of (c := 5) (v := 0) (G' := G) (th := 1) (gQ_eq (opA_no e10)) (fun z => absurd z (by decide)) (((Fr.rf w m (m + 11)).up u1 (by omega) (by omega)).up u15 (by omega) (by omega)) (by decide) ⟨va_up x 0 (nI 1), _, _, _, _, _, _, _, ⟨_, _, _, mO, mS, mF, mK, hfit⟩, ⟨m2, m3, m4, m5, m6, m7, m8⟩, (up_s _ _ _), ⟨((up_n _ _ (by decide)).trans x6), ((up_n _ _ (by decide)).trans x7), ((up_n _ _ (by decide)).trans x13), ((up_n _ _ (by decide)).trans x14), ((up_n _ _ (by decide)).trans x15), ((up_n _ _ (by decide)).trans x16)⟩, hRd⟩)

end JMIO

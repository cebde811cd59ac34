/-! THE MODEL: arrivals, numbers, texts, what is kept -/
section JMREST
theorem c_X9_meanWaits {w : Wd} {m : Nat} {G : Gme} {th : Nat} (hM : RepM w m G th) : MC 3 mX9_meanWaits 0 0 [.ref m] w (RP (fun v w' => Fr w w' m (m + 11) ∧ (sNt (gS G) = 0 → RepM w' m G 1 ∧ ∃ y, v = some (.double y)) ∧ (sNt (gS G) ≠ 0 → RepM w' m G 0 ∧ v = some (.double (gMean (gS G)))))) := by
  obtain ⟨x, f2, f3, f4, f5, f6, f7, f8, hA, ⟨m2, m3, m4, m5, m6, m7, m8⟩, hx0, hRx, hRd⟩ := id hM
  obtain ⟨x6, x7, x13, x14, x15, x16⟩ := id hRx
  obtain ⟨hV, hP, hT, hO, ⟨hb8, hb60, hb14⟩, hE, hF⟩ := id hRd
  obtain ⟨f, g, h, mO, mS, mF, mK, hfit⟩ := id hA
  have hwf := hfit.2.2.2.2
  have hnb := hwf.nb
  have hnt := hwf.nt
  refine MC_j pnX9 rfl rfl rfl (Or.inr (fun E w h => RP_no E w h)) ?_
  show J 3 mX9_meanWaits 0 [some (.ref m), none, none] [] w 0 0 _
  have loop : ∀ w1, sNt (gS G) ≠ 0 → w1.1 m = mCell m (va_up x 0 (nI 0)) → w1.1 (m + 1) = .inl (0, 116, .inl f) → w1.1 (m + 2) = .inl (0, 116, .inl f2) → w1.1 (m + 3) = .inl (0, 116, .inl f3) → w1.1 (m + 4) = .inl (0, 928, .inl f4) → w1.1 (m + 5) = .inl (0, 116, .inl f5) → w1.1 (m + 6) = .inl (0, 60, .inl f6) → w1.1 (m + 7) = .inl (0, 180, .inl f7) → w1.1 (m + 8) = .inl (0, 40, .inl f8) → w1.1 (m + 9) = .inl (0, 14, .inl g) → w1.1 (m + 10) = .inl (0, 14, .inl h) → Fr w w1 m (m + 11) → ∀ n k, sNt (gS G) < n + k → k ≤ sNt (gS G) → J 3 mX9_meanWaits 31 [some (.ref m), some (.int (sumW (sWa (gS G)) k)), some (.int (nI k))] [] w1 0 0 (RP (fun v w' => Fr w w' m (m + 11) ∧ (sNt (gS G) = 0 → RepM w' m G 1 ∧ ∃ y, v = some (.double y)) ∧ (sNt (gS G) ≠ 0 → RepM w' m G 0 ∧ v = some (.double (gMean (gS G)))))) := by
    intro w1 hz mO mS m2 m3 m4 m5 m6 m7 m8 mF mK hFr n
    induction n with
    | zero => intros; omega
    | succ n ih =>
      intro k q1 q2
      have mO : w1.1 m = .inr (9, [.int (nI 0), .ref (m + 1), .ref (m + 2), .ref (m + 3), .ref (m + 4), .ref (m + 5), .int (x 6), .int (x 7), .ref (m + 6), .ref (m + 7), .ref (m + 8), .ref (m + 9), .ref (m + 10), .int (x 13), .int (x 14), .int (x 15), .int (x 16), .int (x 17), .int (x 18), .int (x 19), .int (x 20), .int (x 21)]) := mO
      refine J_iload_n dX9_meanWaits_31 rfl rfl ?_
      refine J_aload_n dX9_meanWaits_32 rfl rfl ?_
      refine J_getfield dX9_meanWaits_33 fX9_7 mO rfl ?_
      refine J_iconst (v := nI 1) dX9_meanWaits_36 (by decide) ?_
      refine K_iald (v := nI (sNt (gS G))) dX9_meanWaits_37 mS (by omega) (by decide) hfit.1.2.1 ?_
      refine J_icmp_ge (tgt := 56) dX9_meanWaits_38 (by decide) (fun h38 => ?_) (fun h38 => ?_)
      · skip
        have h38 := (nI_leI (by omega) (by omega)).mp h38
        have ek : k = sNt (gS G) := by omega
        subst ek
        refine J_iload_n dX9_meanWaits_56 rfl rfl ?_
        refine J_i2d dX9_meanWaits_57 ?_
        refine J_aload_n dX9_meanWaits_58 rfl rfl ?_
        refine J_getfield dX9_meanWaits_59 fX9_7 mO rfl ?_
        refine J_iconst (v := nI 1) dX9_meanWaits_62 (by decide) ?_
        refine K_iald (v := nI (sNt (gS G))) dX9_meanWaits_63 mS (by omega) (by decide) hfit.1.2.1 ?_
        refine J_i2d dX9_meanWaits_64 ?_
        refine J_ddiv dX9_meanWaits_65 (mean_n hwf hz) ?_
        exact J_dreturn dX9_meanWaits_66 rfl (RP_i ⟨hFr, fun z => absurd z hz, fun _ => ⟨⟨va_up x 0 (nI 0), _, _, _, _, _, _, _, ⟨_, _, _, mO, mS, mF, mK, hfit⟩, ⟨m2, m3, m4, m5, m6, m7, m8⟩, (up_s _ _ _), ⟨((up_n _ _ (by decide)).trans x6), ((up_n _ _ (by decide)).trans x7), ((up_n _ _ (by decide)).trans x13), ((up_n _ _ (by decide)).trans x14), ((up_n _ _ (by decide)).trans x15), ((up_n _ _ (by decide)).trans x16)⟩, hRd⟩, rfl⟩⟩)
      · skip
        have h38 := mt (nI_leI (by omega) (by omega)).mpr h38
        refine J_iload_n dX9_meanWaits_41 rfl rfl ?_
        refine J_aload_n dX9_meanWaits_42 rfl rfl ?_
        refine J_iload_n dX9_meanWaits_43 rfl rfl ?_
        refine J_iconst (v := nI 5) dX9_meanWaits_44 (by decide) ?_
        refine K_callV dX9_meanWaits_45 YX9_train kX9_75 (rc_of mO rfl) (c_X9_tWa (x := va_up x 0 (nI 0)) mO mS hfit (show k < sNt (gS G) by omega)) rfl rfl (Nat.le_of_ble_eq_true rfl) (by decide) ?_
        refine K_iadd (v := sumW (sWa (gS G)) (k + 1)) dX9_meanWaits_48 rfl ?_
        refine J_istore_n dX9_meanWaits_49 rfl (by decide) rfl ?_
        refine J_iinc (v := nI (k + 1)) dX9_meanWaits_50 rfl (nI_succ _).symm (by decide) rfl ?_
        refine J_goto (tgt := 31) dX9_meanWaits_53 (by decide) ?_
        exact ih (k + 1) (by omega) (by omega)
  refine J_aload_n dX9_meanWaits_0 rfl rfl ?_
  refine J_aload_n dX9_meanWaits_1 rfl rfl ?_
  refine J_getfield dX9_meanWaits_2 fX9_7 mO rfl ?_
  refine J_iconst (v := nI 1) dX9_meanWaits_5 (by decide) ?_
  refine K_iald (v := nI (sNt (gS G))) dX9_meanWaits_6 mS (by omega) (by decide) hfit.1.2.1 ?_
  refine J_if_ne (tgt := 14) dX9_meanWaits_7 (by decide) (fun h7 => ?_) (fun h7 => ?_)
  · skip
    have h7 := mt (nI_eq (b := 0) (by omega) (by omega)).mpr h7
    refine J_iconst (v := nI 0) dX9_meanWaits_14 (by decide) ?_
    refine K_putI dX9_meanWaits_15 fX9_47 (Or.inl rfl) mO (Nat.le_of_ble_eq_true rfl) (fun w1 u1 => ?_)
    have m2 := (u1.2.1 _ (by omega)).trans m2
    have m3 := (u1.2.1 _ (by omega)).trans m3
    have m4 := (u1.2.1 _ (by omega)).trans m4
    have m5 := (u1.2.1 _ (by omega)).trans m5
    have m6 := (u1.2.1 _ (by omega)).trans m6
    have m7 := (u1.2.1 _ (by omega)).trans m7
    have m8 := (u1.2.1 _ (by omega)).trans m8
    have mF := (u1.2.1 _ (by omega)).trans mF
    have mK := (u1.2.1 _ (by omega)).trans mK
    have mO := u1.1
    have mS := (u1.2.1 _ (by omega)).trans mS
    have mO : w1.1 m = .inr (9, [.int (nI 0), .ref (m + 1), .ref (m + 2), .ref (m + 3), .ref (m + 4), .ref (m + 5), .int (x 6), .int (x 7), .ref (m + 6), .ref (m + 7), .ref (m + 8), .ref (m + 9), .ref (m + 10), .int (x 13), .int (x 14), .int (x 15), .int (x 16), .int (x 17), .int (x 18), .int (x 19), .int (x 20), .int (x 21)]) := mO
    refine J_aload_n dX9_meanWaits_18 rfl rfl ?_
    refine J_getfield dX9_meanWaits_19 fX9_47 mO rfl ?_
    refine J_if_le (tgt := 27) dX9_meanWaits_22 (by decide) (fun h22 => ?_) (fun h22 => absurd h22 (by decide))
    refine J_iconst (v := nI 0) dX9_meanWaits_27 (by decide) ?_
    refine J_istore_n dX9_meanWaits_28 rfl (by decide) rfl ?_
    refine J_iconst (v := nI 0) dX9_meanWaits_29 (by decide) ?_
    refine J_istore_n dX9_meanWaits_30 rfl (by decide) rfl ?_
    exact loop _ h7 mO mS m2 m3 m4 m5 m6 m7 m8 mF mK ((Fr.rf w m (m + 11)).up u1 (by omega) (by omega)) (sNt (gS G) + 1) 0 (by omega) (by omega)
  · skip
    have h7 := (nI_eq (b := 0) (by omega) (by omega)).mp h7
    refine J_iconst (v := nI 1) dX9_meanWaits_10 (by decide) ?_
    refine J_goto (tgt := 15) dX9_meanWaits_11 (by decide) ?_
    refine K_putI dX9_meanWaits_15 fX9_47 (Or.inl rfl) mO (Nat.le_of_ble_eq_true rfl) (fun w1 u1 => ?_)
    have m2 := (u1.2.1 _ (by omega)).trans m2
    have m3 := (u1.2.1 _ (by omega)).trans m3
    have m4 := (u1.2.1 _ (by omega)).trans m4
    have m5 := (u1.2.1 _ (by omega)).trans m5
    have m6 := (u1.2.1 _ (by omega)).trans m6
    have m7 := (u1.2.1 _ (by omega)).trans m7
    have m8 := (u1.2.1 _ (by omega)).trans m8
    have mF := (u1.2.1 _ (by omega)).trans mF
    have mK := (u1.2.1 _ (by omega)).trans mK
    have mO := u1.1
    have mS := (u1.2.1 _ (by omega)).trans mS
    have mO : w1.1 m = .inr (9, [.int (nI 1), .ref (m + 1), .ref (m + 2), .ref (m + 3), .ref (m + 4), .ref (m + 5), .int (x 6), .int (x 7), .ref (m + 6), .ref (m + 7), .ref (m + 8), .ref (m + 9), .ref (m + 10), .int (x 13), .int (x 14), .int (x 15), .int (x 16), .int (x 17), .int (x 18), .int (x 19), .int (x 20), .int (x 21)]) := mO
    refine J_aload_n dX9_meanWaits_18 rfl rfl ?_
    refine J_getfield dX9_meanWaits_19 fX9_47 mO rfl ?_
    refine J_if_le (tgt := 27) dX9_meanWaits_22 (by decide) (fun h22 => absurd h22 (by decide)) (fun h22 => ?_)
    refine J_dconst0 dX9_meanWaits_25 ?_
    exact J_dreturn dX9_meanWaits_26 rfl (RP_i ⟨((Fr.rf w m (m + 11)).up u1 (by omega) (by omega)), fun _ => ⟨⟨va_up x 0 (nI 1), _, _, _, _, _, _, _, ⟨_, _, _, mO, mS, mF, mK, hfit⟩, ⟨m2, m3, m4, m5, m6, m7, m8⟩, (up_s _ _ _), ⟨((up_n _ _ (by decide)).trans x6), ((up_n _ _ (by decide)).trans x7), ((up_n _ _ (by decide)).trans x13), ((up_n _ _ (by decide)).trans x14), ((up_n _ _ (by decide)).trans x15), ((up_n _ _ (by decide)).trans x16)⟩, hRd⟩, _, rfl⟩, fun z => absurd h7 z⟩)

theorem c_X9_occupiedFraction {w : Wd} {m : Nat} {G : Gme} {th : Nat} (hM : RepM w m G th) : MC 2 mX9_occupiedFraction 0 0 [.ref m] w (RP (fun v w' => Fr w w' m (m + 11) ∧ (sNb (gS G) = 0 → RepM w' m G 1 ∧ ∃ y, v = some (.float y)) ∧ (sNb (gS G) ≠ 0 → RepM w' m G 0 ∧ v = some (.float (gOcc (gS G)))))) := by
  obtain ⟨x, f2, f3, f4, f5, f6, f7, f8, hA, ⟨m2, m3, m4, m5, m6, m7, m8⟩, hx0, hRx, hRd⟩ := id hM
  obtain ⟨x6, x7, x13, x14, x15, x16⟩ := id hRx
  obtain ⟨hV, hP, hT, hO, ⟨hb8, hb60, hb14⟩, hE, hF⟩ := id hRd
  obtain ⟨f, g, h, mO, mS, mF, mK, hfit⟩ := id hA
  have hwf := hfit.2.2.2.2
  have hnb := hwf.nb
  have hnt := hwf.nt
  refine MC_j pnX9 rfl rfl rfl (Or.inr (fun E w h => RP_no E w h)) ?_
  show J 2 mX9_occupiedFraction 0 [some (.ref m)] [] w 0 0 _
  refine J_aload_n dX9_occupiedFraction_0 rfl rfl ?_
  refine J_aload_n dX9_occupiedFraction_1 rfl rfl ?_
  refine J_getfield dX9_occupiedFraction_2 fX9_7 mO rfl ?_
  refine J_iconst (v := nI 0) dX9_occupiedFraction_5 (by decide) ?_
  refine K_iald (v := nI (sNb (gS G))) dX9_occupiedFraction_6 mS (by omega) (by decide) hfit.1.1 ?_
  refine J_if_ne (tgt := 14) dX9_occupiedFraction_7 (by decide) (fun h7 => ?_) (fun h7 => ?_)
  · skip
    have h7 := mt (nI_eq (b := 0) (by omega) (by omega)).mpr h7
    refine J_iconst (v := nI 0) dX9_occupiedFraction_14 (by decide) ?_
    refine K_putI dX9_occupiedFraction_15 fX9_47 (Or.inl rfl) mO (Nat.le_of_ble_eq_true rfl) (fun w1 u1 => ?_)
    have m2 := (u1.2.1 _ (by omega)).trans m2
    have m3 := (u1.2.1 _ (by omega)).trans m3
    have m4 := (u1.2.1 _ (by omega)).trans m4
    have m5 := (u1.2.1 _ (by omega)).trans m5
    have m6 := (u1.2.1 _ (by omega)).trans m6
    have m7 := (u1.2.1 _ (by omega)).trans m7
    have m8 := (u1.2.1 _ (by omega)).trans m8
    have mF := (u1.2.1 _ (by omega)).trans mF
    have mK := (u1.2.1 _ (by omega)).trans mK
    have mO := u1.1
    have mS := (u1.2.1 _ (by omega)).trans mS
    have mO : w1.1 m = .inr (9, [.int (nI 0), .ref (m + 1), .ref (m + 2), .ref (m + 3), .ref (m + 4), .ref (m + 5), .int (x 6), .int (x 7), .ref (m + 6), .ref (m + 7), .ref (m + 8), .ref (m + 9), .ref (m + 10), .int (x 13), .int (x 14), .int (x 15), .int (x 16), .int (x 17), .int (x 18), .int (x 19), .int (x 20), .int (x 21)]) := mO
    refine J_aload_n dX9_occupiedFraction_18 rfl rfl ?_
    refine J_getfield dX9_occupiedFraction_19 fX9_47 mO rfl ?_
    refine J_if_le (tgt := 29) dX9_occupiedFraction_22 (by decide) (fun h22 => ?_) (fun h22 => absurd h22 (by decide))
    refine J_aload_n dX9_occupiedFraction_29 rfl rfl ?_
    refine J_getfield dX9_occupiedFraction_30 fX9_7 mO rfl ?_
    refine J_iconst (v := nI 1) dX9_occupiedFraction_33 (by decide) ?_
    refine K_iald (v := nI (sNt (gS G))) dX9_occupiedFraction_34 mS (by omega) (by decide) hfit.1.2.1 ?_
    refine J_i2f dX9_occupiedFraction_35 ?_
    refine J_aload_n dX9_occupiedFraction_36 rfl rfl ?_
    refine J_getfield dX9_occupiedFraction_37 fX9_7 mO rfl ?_
    refine J_iconst (v := nI 0) dX9_occupiedFraction_40 (by decide) ?_
    refine K_iald (v := nI (sNb (gS G))) dX9_occupiedFraction_41 mS (by omega) (by decide) hfit.1.1 ?_
    refine J_i2f dX9_occupiedFraction_42 ?_
    refine J_fdiv dX9_occupiedFraction_43 (occ_n hwf h7).1 ?_
    exact J_freturn dX9_occupiedFraction_44 rfl (RP_i ⟨((Fr.rf w m (m + 11)).up u1 (by omega) (by omega)), fun z => absurd z h7, fun _ => ⟨⟨va_up x 0 (nI 0), _, _, _, _, _, _, _, ⟨_, _, _, mO, mS, mF, mK, hfit⟩, ⟨m2, m3, m4, m5, m6, m7, m8⟩, (up_s _ _ _), ⟨((up_n _ _ (by decide)).trans x6), ((up_n _ _ (by decide)).trans x7), ((up_n _ _ (by decide)).trans x13), ((up_n _ _ (by decide)).trans x14), ((up_n _ _ (by decide)).trans x15), ((up_n _ _ (by decide)).trans x16)⟩, hRd⟩, rfl⟩⟩)
  · skip
    have h7 := (nI_eq (b := 0) (by omega) (by omega)).mp h7
    refine J_iconst (v := nI 1) dX9_occupiedFraction_10 (by decide) ?_
    refine J_goto (tgt := 15) dX9_occupiedFraction_11 (by decide) ?_
    refine K_putI dX9_occupiedFraction_15 fX9_47 (Or.inl rfl) mO (Nat.le_of_ble_eq_true rfl) (fun w1 u1 => ?_)
    have m2 := (u1.2.1 _ (by omega)).trans m2
    have m3 := (u1.2.1 _ (by omega)).trans m3
    have m4 := (u1.2.1 _ (by omega)).trans m4
    have m5 := (u1.2.1 _ (by omega)).trans m5
    have m6 := (u1.2.1 _ (by omega)).trans m6
    have m7 := (u1.2.1 _ (by omega)).trans m7
    have m8 := (u1.2.1 _ (by omega)).trans m8
    have mF := (u1.2.1 _ (by omega)).trans mF
    have mK := (u1.2.1 _ (by omega)).trans mK
    have mO := u1.1
    have mS := (u1.2.1 _ (by omega)).trans mS
    have mO : w1.1 m = .inr (9, [.int (nI 1), .ref (m + 1), .ref (m + 2), .ref (m + 3), .ref (m + 4), .ref (m + 5), .int (x 6), .int (x 7), .ref (m + 6), .ref (m + 7), .ref (m + 8), .ref (m + 9), .ref (m + 10), .int (x 13), .int (x 14), .int (x 15), .int (x 16), .int (x 17), .int (x 18), .int (x 19), .int (x 20), .int (x 21)]) := mO
    refine J_aload_n dX9_occupiedFraction_18 rfl rfl ?_
    refine J_getfield dX9_occupiedFraction_19 fX9_47 mO rfl ?_
    refine J_if_le (tgt := 29) dX9_occupiedFraction_22 (by decide) (fun h22 => absurd h22 (by decide)) (fun h22 => ?_)
    refine J_fconst0 dX9_occupiedFraction_25 ?_
    refine J_goto (tgt := 44) dX9_occupiedFraction_26 (by decide) ?_
    exact J_freturn dX9_occupiedFraction_44 rfl (RP_i ⟨((Fr.rf w m (m + 11)).up u1 (by omega) (by omega)), fun _ => ⟨⟨va_up x 0 (nI 1), _, _, _, _, _, _, _, ⟨_, _, _, mO, mS, mF, mK, hfit⟩, ⟨m2, m3, m4, m5, m6, m7, m8⟩, (up_s _ _ _), ⟨((up_n _ _ (by decide)).trans x6), ((up_n _ _ (by decide)).trans x7), ((up_n _ _ (by decide)).trans x13), ((up_n _ _ (by decide)).trans x14), ((up_n _ _ (by decide)).trans x15), ((up_n _ _ (by decide)).trans x16)⟩, hRd⟩, _, rfl⟩, fun z => absurd h7 z⟩)

end JMREST

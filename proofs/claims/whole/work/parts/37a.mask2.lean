/-! THE MODEL: its questions, more -/
section JMASK2
theorem dec1 (j : Nat) : nI j + Int32.ofInt (-1) = nI j - nI 1 := by rw [Int32.sub_eq_add_neg]; rfl
theorem dF_c {o : Option Nat} {c : Nat} (h : o = some c) : dF 9999 o = c := by rw [h]; rfl
theorem cuq9_le {S : St} (h : WF S) {s k : Nat} (hk : k ≤ sNb S) : amV 9999 (am k (cuq S s)) ≤ 9999 := amV_le k fun j c hj hc => by
  unfold cuq at hc
  split at hc
  · have := dS_le h (show j < sNb S by omega) hc
    omega
  · cases hc
theorem c_X9_distance {w : Wd} {m : Nat} {G : Gme} {th : Nat} (hM : RepM w m G th) (y z : Int32) : MC 4 mX9_distance 0 0 [.ref m, .int y, .int z] w (GM w m [1, 5] (gQ G (onB2 (gS G) y z (fun a b => opA (dS (gS G) a b))))) := by
  obtain ⟨x, f2, f3, f4, f5, f6, f7, f8, hA, ⟨m2, m3, m4, m5, m6, m7, m8⟩, hx0, hRx, hRd⟩ := id hM
  obtain ⟨x6, x7, x13, x14, x15, x16⟩ := id hRx
  obtain ⟨hV, hP, hT, hO, ⟨hb8, hb60, hb14⟩, hE, hF⟩ := id hRd
  obtain ⟨f, g, h, mO, mS, mF, mK, hfit⟩ := id hA
  have hwf := hfit.2.2.2.2
  have hnb := hwf.nb
  have hnt := hwf.nt
  refine MC_j pnX9 rfl rfl rfl (Or.inr (fun E w h => RP_no E w h)) ?_
  show J 4 mX9_distance 0 [some (.ref m), some (.int y), some (.int z)] [] w 0 0 _
  refine J_aload_n dX9_distance_0 rfl rfl ?_
  refine J_aload_n dX9_distance_1 rfl rfl ?_
  refine J_iload_n dX9_distance_2 rfl rfl ?_
  refine K_callV dX9_distance_3 YX9_isBlock kX9_91 (rc_of mO rfl) (c_X9_isBlock mO mS hfit _) rfl rfl (Nat.le_of_ble_eq_true rfl) (by decide) ?_
  refine J_if_eq (tgt := 21) dX9_distance_6 (by decide) (fun h6 => ?_) (fun h6 => ?_)
  · skip
    have e6 : (vi (sNb (gS G)) y).isSome = false := b2i_eq.mp h6
    have e6 := isS_no e6
    refine J_iconst (v := nI 1) dX9_distance_21 (by decide) ?_
    refine K_putI dX9_distance_22 fX9_47 (Or.inl rfl) mO (Nat.le_of_ble_eq_true rfl) (fun w1 u1 => ?_)
    have m2 := (u1.2.1 _ (by omega)).trans m2
    have m3 := (u1.2.1 _ (by omega)).trans m3
    have m4 := (u1.2.1 _ (by omega)).trans m4
    have m5 := (u1.2.1 _ (by omega)).trans m5
    have m6 := (u1.2.1 _ (by omega)).trans m6
    have m7 := (u1.2.1 _ (by omega)).trans m7
    have m8 := (u1.2.1 _ (by omega)).trans m8
    have mF := (u1.2.1 _ (by omega)).trans mF
    have mK := (u1.2.1 _ (by omega)).trans mK
    have mO := u1.1
    have mS := (u1.2.1 _ (by omega)).trans mS
    have mO : w1.1 m = .inr (9, [.int (nI 1), .ref (m + 1), .ref (m + 2), .ref (m + 3), .ref (m + 4), .ref (m + 5), .int (x 6), .int (x 7), .ref (m + 6), .ref (m + 7), .ref (m + 8), .ref (m + 9), .ref (m + 10), .int (x 13), .int (x 14), .int (x 15), .int (x 16), .int (x 17), .int (x 18), .int (x 19), .int (x 20), .int (x 21)]) := mO
    refine J_aload_n dX9_distance_25 rfl rfl ?_
    refine J_getfield dX9_distance_26 fX9_47 mO rfl ?_
    refine J_if_le (tgt := 34) dX9_distance_29 (by decide) (fun h29 => absurd h29 (by decide)) (fun h29 => ?_)
    refine J_iconst (v := nI 0) dX9_distance_32 (by decide) ?_
    exact J_ireturn dX9_distance_33 rfl rfl (GM_of (c := 1) (v := 0) (G' := G) (th := 1) (gQ_eq (onB2_n1 e6)) (fun z => absurd z (by decide)) ((Fr.rf w m (m + 11)).up u1 (by omega) (by omega)) (by decide) ⟨va_up x 0 (nI 1), _, _, _, _, _, _, _, ⟨_, _, _, mO, mS, mF, mK, hfit⟩, ⟨m2, m3, m4, m5, m6, m7, m8⟩, (up_s _ _ _), ⟨((up_n _ _ (by decide)).trans x6), ((up_n _ _ (by decide)).trans x7), ((up_n _ _ (by decide)).trans x13), ((up_n _ _ (by decide)).trans x14), ((up_n _ _ (by decide)).trans x15), ((up_n _ _ (by decide)).trans x16)⟩, hRd⟩)
  · skip
    have e6 : (vi (sNb (gS G)) y).isSome = true := b2i_ne.mp h6
    obtain ⟨i, e6⟩ := isS_yes e6
    obtain ⟨hi, rfl⟩ := vi_some (by omega) e6
    refine J_aload_n dX9_distance_9 rfl rfl ?_
    refine J_iload_n dX9_distance_10 rfl rfl ?_
    refine K_callV dX9_distance_11 YX9_isBlock kX9_91 (rc_of mO rfl) (c_X9_isBlock mO mS hfit _) rfl rfl (Nat.le_of_ble_eq_true rfl) (by decide) ?_
    refine J_if_eq (tgt := 21) dX9_distance_14 (by decide) (fun h14 => ?_) (fun h14 => ?_)
    · skip
      have e14 : (vi (sNb (gS G)) z).isSome = false := b2i_eq.mp h14
      have e14 := isS_no e14
      refine J_iconst (v := nI 1) dX9_distance_21 (by decide) ?_
      refine K_putI dX9_distance_22 fX9_47 (Or.inl rfl) mO (Nat.le_of_ble_eq_true rfl) (fun w1 u1 => ?_)
      have m2 := (u1.2.1 _ (by omega)).trans m2
      have m3 := (u1.2.1 _ (by omega)).trans m3
      have m4 := (u1.2.1 _ (by omega)).trans m4
      have m5 := (u1.2.1 _ (by omega)).trans m5
      have m6 := (u1.2.1 _ (by omega)).trans m6
      have m7 := (u1.2.1 _ (by omega)).trans m7
      have m8 := (u1.2.1 _ (by omega)).trans m8
      have mF := (u1.2.1 _ (by omega)).trans mF
      have mK := (u1.2.1 _ (by omega)).trans mK
      have mO := u1.1
      have mS := (u1.2.1 _ (by omega)).trans mS
      have mO : w1.1 m = .inr (9, [.int (nI 1), .ref (m + 1), .ref (m + 2), .ref (m + 3), .ref (m + 4), .ref (m + 5), .int (x 6), .int (x 7), .ref (m + 6), .ref (m + 7), .ref (m + 8), .ref (m + 9), .ref (m + 10), .int (x 13), .int (x 14), .int (x 15), .int (x 16), .int (x 17), .int (x 18), .int (x 19), .int (x 20), .int (x 21)]) := mO
      refine J_aload_n dX9_distance_25 rfl rfl ?_
      refine J_getfield dX9_distance_26 fX9_47 mO rfl ?_
      refine J_if_le (tgt := 34) dX9_distance_29 (by decide) (fun h29 => absurd h29 (by decide)) (fun h29 => ?_)
      refine J_iconst (v := nI 0) dX9_distance_32 (by decide) ?_
      exact J_ireturn dX9_distance_33 rfl rfl (GM_of (c := 1) (v := 0) (G' := G) (th := 1) (gQ_eq (onB2_n2 e14)) (fun z => absurd z (by decide)) ((Fr.rf w m (m + 11)).up u1 (by omega) (by omega)) (by decide) ⟨va_up x 0 (nI 1), _, _, _, _, _, _, _, ⟨_, _, _, mO, mS, mF, mK, hfit⟩, ⟨m2, m3, m4, m5, m6, m7, m8⟩, (up_s _ _ _), ⟨((up_n _ _ (by decide)).trans x6), ((up_n _ _ (by decide)).trans x7), ((up_n _ _ (by decide)).trans x13), ((up_n _ _ (by decide)).trans x14), ((up_n _ _ (by decide)).trans x15), ((up_n _ _ (by decide)).trans x16)⟩, hRd⟩)
    · skip
      have e14 : (vi (sNb (gS G)) z).isSome = true := b2i_ne.mp h14
      obtain ⟨j, e14⟩ := isS_yes e14
      obtain ⟨hj, rfl⟩ := vi_some (by omega) e14
      refine J_iconst (v := nI 0) dX9_distance_17 (by decide) ?_
      refine J_goto (tgt := 22) dX9_distance_18 (by decide) ?_
      refine K_putI dX9_distance_22 fX9_47 (Or.inl rfl) mO (Nat.le_of_ble_eq_true rfl) (fun w1 u1 => ?_)
      have m2 := (u1.2.1 _ (by omega)).trans m2
      have m3 := (u1.2.1 _ (by omega)).trans m3
      have m4 := (u1.2.1 _ (by omega)).trans m4
      have m5 := (u1.2.1 _ (by omega)).trans m5
      have m6 := (u1.2.1 _ (by omega)).trans m6
      have m7 := (u1.2.1 _ (by omega)).trans m7
      have m8 := (u1.2.1 _ (by omega)).trans m8
      have mF := (u1.2.1 _ (by omega)).trans mF
      have mK := (u1.2.1 _ (by omega)).trans mK
      have mO := u1.1
      have mS := (u1.2.1 _ (by omega)).trans mS
      have mO : w1.1 m = .inr (9, [.int (nI 0), .ref (m + 1), .ref (m + 2), .ref (m + 3), .ref (m + 4), .ref (m + 5), .int (x 6), .int (x 7), .ref (m + 6), .ref (m + 7), .ref (m + 8), .ref (m + 9), .ref (m + 10), .int (x 13), .int (x 14), .int (x 15), .int (x 16), .int (x 17), .int (x 18), .int (x 19), .int (x 20), .int (x 21)]) := mO
      refine J_aload_n dX9_distance_25 rfl rfl ?_
      refine J_getfield dX9_distance_26 fX9_47 mO rfl ?_
      refine J_if_le (tgt := 34) dX9_distance_29 (by decide) (fun h29 => ?_) (fun h29 => absurd h29 (by decide))
      refine J_aload_n dX9_distance_34 rfl rfl ?_
      refine J_iload_n dX9_distance_35 rfl rfl ?_
      refine K_callVp dX9_distance_36 YX9_ways kX9_84 (rc_of mO rfl) (c_X9_ways (x := va_up x 0 (nI 0)) ⟨_, _, _, mO, mS, mF, mK, hfit⟩ hj) rfl rfl (Nat.le_of_ble_eq_true rfl) (by decide) (fun v36 w36 q36 => ?_)
      obtain ⟨rfl, hF36, g36, mF36, hfar⟩ := q36
      have m2 := (hF36.1 _ (by omega)).trans m2
      have m3 := (hF36.1 _ (by omega)).trans m3
      have m4 := (hF36.1 _ (by omega)).trans m4
      have m5 := (hF36.1 _ (by omega)).trans m5
      have m6 := (hF36.1 _ (by omega)).trans m6
      have m7 := (hF36.1 _ (by omega)).trans m7
      have m8 := (hF36.1 _ (by omega)).trans m8
      have mK := (hF36.1 _ (by omega)).trans mK
      have mO := (hF36.1 _ (by omega)).trans mO
      have mS := (hF36.1 _ (by omega)).trans mS
      have mF := mF36
      refine J_aload_n dX9_distance_39 rfl rfl ?_
      refine J_getfield dX9_distance_40 fX9_34 mO rfl ?_
      refine J_iload_n dX9_distance_43 rfl rfl ?_
      have q44a := dF9_le hwf (s := i) hj
      refine K_iald (v := nI (dF 9999 (dS (gS G) i j))) dX9_distance_44 mF (by omega) (by decide) (hfar i (by omega)) ?_
      refine J_sipush (v := nI 9999) dX9_distance_45 (by decide) ?_
      refine J_icmp_ge (tgt := 60) dX9_distance_48 (by decide) (fun h48 => ?_) (fun h48 => ?_)
      · skip
        have h48 := (nI_leI (by omega) (by omega)).mp h48
        have hc := dF_ge (fun c e => dS_le hwf hj e) (show ¬ dF 9999 (dS (gS G) i j) < 9999 by omega)
        refine J_aload_n dX9_distance_60 rfl rfl ?_
        refine J_iconst (v := nI 2) dX9_distance_61 (by decide) ?_
        refine K_callVp dX9_distance_62 YX9_fails kX9_60 (rc_of mO rfl) (c_X9_fails (x := va_up x 0 (nI 0)) mO _) rfl rfl (Nat.le_of_ble_eq_true rfl) (by decide) (fun v62 w62 q62 => ?_)
        obtain ⟨rfl, u62⟩ := q62
        have mO : w62.1 m = .inr (9, [.int (nI 2), .ref (m + 1), .ref (m + 2), .ref (m + 3), .ref (m + 4), .ref (m + 5), .int (x 6), .int (x 7), .ref (m + 6), .ref (m + 7), .ref (m + 8), .ref (m + 9), .ref (m + 10), .int (x 13), .int (x 14), .int (x 15), .int (x 16), .int (x 17), .int (x 18), .int (x 19), .int (x 20), .int (x 21)]) := u62.1
        have mS := (u62.2.1 _ (by omega)).trans mS
        have mF := (u62.2.1 _ (by omega)).trans mF
        have mK := (u62.2.1 _ (by omega)).trans mK
        have m2 := (u62.2.1 _ (by omega)).trans m2
        have m3 := (u62.2.1 _ (by omega)).trans m3
        have m4 := (u62.2.1 _ (by omega)).trans m4
        have m5 := (u62.2.1 _ (by omega)).trans m5
        have m6 := (u62.2.1 _ (by omega)).trans m6
        have m7 := (u62.2.1 _ (by omega)).trans m7
        have m8 := (u62.2.1 _ (by omega)).trans m8
        exact J_ireturn dX9_distance_65 rfl rfl (GM_of (c := 5) (v := 0) (G' := G) (th := 2) (gQ_eq ((onB2_ok e6 e14).trans (opA_no hc))) (fun z => absurd z (by decide)) ((((Fr.rf w m (m + 11)).up u1 (by omega) (by omega)).tr hF36 (by omega) (by omega)).up u62 (by omega) (by omega)) (by decide) ⟨va_up x 0 (nI 2), _, _, _, _, _, _, _, ⟨_, _, _, mO, mS, mF, mK, hfit⟩, ⟨m2, m3, m4, m5, m6, m7, m8⟩, (up_s _ _ _), ⟨((up_n _ _ (by decide)).trans x6), ((up_n _ _ (by decide)).trans x7), ((up_n _ _ (by decide)).trans x13), ((up_n _ _ (by decide)).trans x14), ((up_n _ _ (by decide)).trans x15), ((up_n _ _ (by decide)).trans x16)⟩, hRd⟩)
      · skip
        have h48 := mt (nI_leI (by omega) (by omega)).mpr h48
        obtain ⟨c, hc⟩ := dF_lt (show dF 9999 (dS (gS G) i j) < 9999 by omega)
        refine J_aload_n dX9_distance_51 rfl rfl ?_
        refine J_getfield dX9_distance_52 fX9_34 mO rfl ?_
        refine J_iload_n dX9_distance_55 rfl rfl ?_
        have q56a := dF9_le hwf (s := i) hj
        refine K_iald (v := nI (dF 9999 (dS (gS G) i j))) dX9_distance_56 mF (by omega) (by decide) (hfar i (by omega)) ?_
        refine J_goto (tgt := 65) dX9_distance_57 (by decide) ?_
        exact J_ireturn dX9_distance_65 rfl rfl (GM_of (c := 0) (v := nI c) (G' := G) (th := 0) (gQ_eq ((onB2_ok e6 e14).trans (opA_ok hc))) (fun _ => congrArg nI (dF_c hc)) (((Fr.rf w m (m + 11)).up u1 (by omega) (by omega)).tr hF36 (by omega) (by omega)) (by decide) ⟨va_up x 0 (nI 0), _, _, _, _, _, _, _, ⟨_, _, _, mO, mS, mF, mK, hfit⟩, ⟨m2, m3, m4, m5, m6, m7, m8⟩, (up_s _ _ _), ⟨((up_n _ _ (by decide)).trans x6), ((up_n _ _ (by decide)).trans x7), ((up_n _ _ (by decide)).trans x13), ((up_n _ _ (by decide)).trans x14), ((up_n _ _ (by decide)).trans x15), ((up_n _ _ (by decide)).trans x16)⟩, hRd⟩)

theorem c_X9_distanceByRounds {w : Wd} {m : Nat} {G : Gme} {th : Nat} (hM : RepM w m G th) (y z : Int32) : MC 5 mX9_distanceByRounds 0 0 [.ref m, .int y, .int z] w (GM w m [1, 5] (gQ G (onB2 (gS G) y z (fun a b => opA (dS (gS G) a b))))) := by
  obtain ⟨x, f2, f3, f4, f5, f6, f7, f8, hA, ⟨m2, m3, m4, m5, m6, m7, m8⟩, hx0, hRx, hRd⟩ := id hM
  obtain ⟨x6, x7, x13, x14, x15, x16⟩ := id hRx
  obtain ⟨hV, hP, hT, hO, ⟨hb8, hb60, hb14⟩, hE, hF⟩ := id hRd
  obtain ⟨f, g, h, mO, mS, mF, mK, hfit⟩ := id hA
  have hwf := hfit.2.2.2.2
  have hnb := hwf.nb
  have hnt := hwf.nt
  refine MC_j pnX9 rfl rfl rfl (Or.inr (fun E w h => RP_no E w h)) ?_
  show J 5 mX9_distanceByRounds 0 [some (.ref m), some (.int y), some (.int z)] [] w 0 0 _
  refine J_aload_n dX9_distanceByRounds_0 rfl rfl ?_
  refine J_iload_n dX9_distanceByRounds_1 rfl rfl ?_
  refine J_iload_n dX9_distanceByRounds_2 rfl rfl ?_
  refine K_callVp dX9_distanceByRounds_3 YX9_distance kX9_154 (rc_of mO rfl) (c_X9_distance hM y z) rfl rfl (Nat.le_of_ble_eq_true rfl) (by decide) (fun v3 w3 q3 => ?_)
  obtain ⟨⟨yv, rfl, hy⟩, hF, hR⟩ := q3
  exact J_ireturn dX9_distanceByRounds_6 rfl rfl (RP_i ⟨⟨yv, rfl, hy⟩, hF, hR⟩)

theorem c_X9_nextBlock {w : Wd} {m : Nat} {G : Gme} {th : Nat} (hM : RepM w m G th) (y : Int32) : MC 5 mX9_nextBlock 0 0 [.ref m, .int y] w (GM w m [1, 5] (gQ G (onI (sNt (gS G)) y (fun t => opA (nx (gS G) t))))) := by
  obtain ⟨x, f2, f3, f4, f5, f6, f7, f8, hA, ⟨m2, m3, m4, m5, m6, m7, m8⟩, hx0, hRx, hRd⟩ := id hM
  obtain ⟨x6, x7, x13, x14, x15, x16⟩ := id hRx
  obtain ⟨hV, hP, hT, hO, ⟨hb8, hb60, hb14⟩, hE, hF⟩ := id hRd
  obtain ⟨f, g, h, mO, mS, mF, mK, hfit⟩ := id hA
  have hwf := hfit.2.2.2.2
  have hnb := hwf.nb
  have hnt := hwf.nt
  refine MC_j pnX9 rfl rfl rfl (Or.inr (fun E w h => RP_no E w h)) ?_
  show J 5 mX9_nextBlock 0 [some (.ref m), some (.int y), none] [] w 0 0 _
  refine J_aload_n dX9_nextBlock_0 rfl rfl ?_
  refine J_aload_n dX9_nextBlock_1 rfl rfl ?_
  refine J_iload_n dX9_nextBlock_2 rfl rfl ?_
  refine K_callV dX9_nextBlock_3 YX9_isTrain kX9_109 (rc_of mO rfl) (c_X9_isTrain mO mS hfit _) rfl rfl (Nat.le_of_ble_eq_true rfl) (by decide) ?_
  refine J_if_eq (tgt := 13) dX9_nextBlock_6 (by decide) (fun h6 => ?_) (fun h6 => ?_)
  · skip
    have e6 : (vi (sNt (gS G)) y).isSome = false := b2i_eq.mp h6
    have e6 := isS_no e6
    refine J_iconst (v := nI 1) dX9_nextBlock_13 (by decide) ?_
    refine K_putI dX9_nextBlock_14 fX9_47 (Or.inl rfl) mO (Nat.le_of_ble_eq_true rfl) (fun w1 u1 => ?_)
    have m2 := (u1.2.1 _ (by omega)).trans m2
    have m3 := (u1.2.1 _ (by omega)).trans m3
    have m4 := (u1.2.1 _ (by omega)).trans m4
    have m5 := (u1.2.1 _ (by omega)).trans m5
    have m6 := (u1.2.1 _ (by omega)).trans m6
    have m7 := (u1.2.1 _ (by omega)).trans m7
    have m8 := (u1.2.1 _ (by omega)).trans m8
    have mF := (u1.2.1 _ (by omega)).trans mF
    have mK := (u1.2.1 _ (by omega)).trans mK
    have mO := u1.1
    have mS := (u1.2.1 _ (by omega)).trans mS
    have mO : w1.1 m = .inr (9, [.int (nI 1), .ref (m + 1), .ref (m + 2), .ref (m + 3), .ref (m + 4), .ref (m + 5), .int (x 6), .int (x 7), .ref (m + 6), .ref (m + 7), .ref (m + 8), .ref (m + 9), .ref (m + 10), .int (x 13), .int (x 14), .int (x 15), .int (x 16), .int (x 17), .int (x 18), .int (x 19), .int (x 20), .int (x 21)]) := mO
    refine J_aload_n dX9_nextBlock_17 rfl rfl ?_
    refine J_getfield dX9_nextBlock_18 fX9_47 mO rfl ?_
    refine J_if_le (tgt := 26) dX9_nextBlock_21 (by decide) (fun h21 => absurd h21 (by decide)) (fun h21 => ?_)
    refine J_iconst (v := nI 0) dX9_nextBlock_24 (by decide) ?_
    exact J_ireturn dX9_nextBlock_25 rfl rfl (GM_of (c := 1) (v := 0) (G' := G) (th := 1) (gQ_eq (onI_no e6)) (fun z => absurd z (by decide)) ((Fr.rf w m (m + 11)).up u1 (by omega) (by omega)) (by decide) ⟨va_up x 0 (nI 1), _, _, _, _, _, _, _, ⟨_, _, _, mO, mS, mF, mK, hfit⟩, ⟨m2, m3, m4, m5, m6, m7, m8⟩, (up_s _ _ _), ⟨((up_n _ _ (by decide)).trans x6), ((up_n _ _ (by decide)).trans x7), ((up_n _ _ (by decide)).trans x13), ((up_n _ _ (by decide)).trans x14), ((up_n _ _ (by decide)).trans x15), ((up_n _ _ (by decide)).trans x16)⟩, hRd⟩)
  · skip
    have e6 : (vi (sNt (gS G)) y).isSome = true := b2i_ne.mp h6
    obtain ⟨i, e6⟩ := isS_yes e6
    obtain ⟨hi, rfl⟩ := vi_some (by omega) e6
    refine J_iconst (v := nI 0) dX9_nextBlock_9 (by decide) ?_
    refine J_goto (tgt := 14) dX9_nextBlock_10 (by decide) ?_
    refine K_putI dX9_nextBlock_14 fX9_47 (Or.inl rfl) mO (Nat.le_of_ble_eq_true rfl) (fun w1 u1 => ?_)
    have m2 := (u1.2.1 _ (by omega)).trans m2
    have m3 := (u1.2.1 _ (by omega)).trans m3
    have m4 := (u1.2.1 _ (by omega)).trans m4
    have m5 := (u1.2.1 _ (by omega)).trans m5
    have m6 := (u1.2.1 _ (by omega)).trans m6
    have m7 := (u1.2.1 _ (by omega)).trans m7
    have m8 := (u1.2.1 _ (by omega)).trans m8
    have mF := (u1.2.1 _ (by omega)).trans mF
    have mK := (u1.2.1 _ (by omega)).trans mK
    have mO := u1.1
    have mS := (u1.2.1 _ (by omega)).trans mS
    have mO : w1.1 m = .inr (9, [.int (nI 0), .ref (m + 1), .ref (m + 2), .ref (m + 3), .ref (m + 4), .ref (m + 5), .int (x 6), .int (x 7), .ref (m + 6), .ref (m + 7), .ref (m + 8), .ref (m + 9), .ref (m + 10), .int (x 13), .int (x 14), .int (x 15), .int (x 16), .int (x 17), .int (x 18), .int (x 19), .int (x 20), .int (x 21)]) := mO
    refine J_aload_n dX9_nextBlock_17 rfl rfl ?_
    refine J_getfield dX9_nextBlock_18 fX9_47 mO rfl ?_
    refine J_if_le (tgt := 26) dX9_nextBlock_21 (by decide) (fun h21 => ?_) (fun h21 => absurd h21 (by decide))
    refine J_aload_n dX9_nextBlock_26 rfl rfl ?_
    refine J_iload_n dX9_nextBlock_27 rfl rfl ?_
    refine K_callVp dX9_nextBlock_28 YX9_next kX9_115 (rc_of mO rfl) (c_X9_next (x := va_up x 0 (nI 0)) ⟨_, _, _, mO, mS, mF, mK, hfit⟩ hi) rfl rfl (Nat.le_of_ble_eq_true rfl) (by decide) (fun v28 w28 q28 => ?_)
    obtain ⟨rfl, hF28, hA28⟩ := q28
    have m2 := (hF28.1 _ (by omega)).trans m2
    have m3 := (hF28.1 _ (by omega)).trans m3
    have m4 := (hF28.1 _ (by omega)).trans m4
    have m5 := (hF28.1 _ (by omega)).trans m5
    have m6 := (hF28.1 _ (by omega)).trans m6
    have m7 := (hF28.1 _ (by omega)).trans m7
    have m8 := (hF28.1 _ (by omega)).trans m8
    have mK := (hF28.1 _ (by omega)).trans mK
    have mO := (hF28.1 _ (by omega)).trans mO
    have mS := (hF28.1 _ (by omega)).trans mS
    obtain ⟨-, g28, -, -, -, mF, -, -⟩ := hA28
    refine J_istore_n dX9_nextBlock_31 rfl (by decide) rfl ?_
    refine J_iload_n dX9_nextBlock_32 rfl rfl ?_
    refine J_iconst (v := (-1)) dX9_nextBlock_33 (by decide) ?_
    refine J_icmp_ne (tgt := 45) dX9_nextBlock_34 (by decide) (fun h34 => ?_) (fun h34 => ?_)
    · skip
      obtain ⟨k34, e34⟩ : ∃ k_, nx (gS G) i = some k_ := by
        cases q : nx (gS G) i with
        | none => exact absurd ((oI_m1 (nx_b hwf)).mpr q) h34
        | some k_ => exact ⟨k_, rfl⟩
      refine J_iload_n dX9_nextBlock_45 rfl rfl ?_
      exact J_ireturn dX9_nextBlock_46 rfl rfl (GM_of (c := 0) (v := nI k34) (G' := G) (th := 0) (gQ_eq ((onI_ok e6).trans (opA_ok e34))) (fun _ => by rw [e34]; rfl) (((Fr.rf w m (m + 11)).up u1 (by omega) (by omega)).tr hF28 (by omega) (by omega)) (by decide) ⟨va_up x 0 (nI 0), _, _, _, _, _, _, _, ⟨_, _, _, mO, mS, mF, mK, hfit⟩, ⟨m2, m3, m4, m5, m6, m7, m8⟩, (up_s _ _ _), ⟨((up_n _ _ (by decide)).trans x6), ((up_n _ _ (by decide)).trans x7), ((up_n _ _ (by decide)).trans x13), ((up_n _ _ (by decide)).trans x14), ((up_n _ _ (by decide)).trans x15), ((up_n _ _ (by decide)).trans x16)⟩, hRd⟩)
    · skip
      have e34 : nx (gS G) i = none := (oI_m1 (nx_b hwf)).mp h34
      refine J_aload_n dX9_nextBlock_37 rfl rfl ?_
      refine J_iconst (v := nI 2) dX9_nextBlock_38 (by decide) ?_
      refine K_callVp dX9_nextBlock_39 YX9_fails kX9_60 (rc_of mO rfl) (c_X9_fails (x := va_up x 0 (nI 0)) mO _) rfl rfl (Nat.le_of_ble_eq_true rfl) (by decide) (fun v39 w39 q39 => ?_)
      obtain ⟨rfl, u39⟩ := q39
      have mO : w39.1 m = .inr (9, [.int (nI 2), .ref (m + 1), .ref (m + 2), .ref (m + 3), .ref (m + 4), .ref (m + 5), .int (x 6), .int (x 7), .ref (m + 6), .ref (m + 7), .ref (m + 8), .ref (m + 9), .ref (m + 10), .int (x 13), .int (x 14), .int (x 15), .int (x 16), .int (x 17), .int (x 18), .int (x 19), .int (x 20), .int (x 21)]) := u39.1
      have mS := (u39.2.1 _ (by omega)).trans mS
      have mF := (u39.2.1 _ (by omega)).trans mF
      have mK := (u39.2.1 _ (by omega)).trans mK
      have m2 := (u39.2.1 _ (by omega)).trans m2
      have m3 := (u39.2.1 _ (by omega)).trans m3
      have m4 := (u39.2.1 _ (by omega)).trans m4
      have m5 := (u39.2.1 _ (by omega)).trans m5
      have m6 := (u39.2.1 _ (by omega)).trans m6
      have m7 := (u39.2.1 _ (by omega)).trans m7
      have m8 := (u39.2.1 _ (by omega)).trans m8
      refine J_goto (tgt := 46) dX9_nextBlock_42 (by decide) ?_
      exact J_ireturn dX9_nextBlock_46 rfl rfl (GM_of (c := 5) (v := 0) (G' := G) (th := 2) (gQ_eq ((onI_ok e6).trans (opA_no e34))) (fun z => absurd z (by decide)) ((((Fr.rf w m (m + 11)).up u1 (by omega) (by omega)).tr hF28 (by omega) (by omega)).up u39 (by omega) (by omega)) (by decide) ⟨va_up x 0 (nI 2), _, _, _, _, _, _, _, ⟨_, _, _, mO, mS, mF, mK, hfit⟩, ⟨m2, m3, m4, m5, m6, m7, m8⟩, (up_s _ _ _), ⟨((up_n _ _ (by decide)).trans x6), ((up_n _ _ (by decide)).trans x7), ((up_n _ _ (by decide)).trans x13), ((up_n _ _ (by decide)).trans x14), ((up_n _ _ (by decide)).trans x15), ((up_n _ _ (by decide)).trans x16)⟩, hRd⟩)

theorem c_X9_blockedBy {w : Wd} {m : Nat} {G : Gme} {th : Nat} (hM : RepM w m G th) (y : Int32) : MC 6 mX9_blockedBy 0 0 [.ref m, .int y] w (GM w m [1, 5] (gQ G (onI (sNt (gS G)) y (fun t => opA (bk (gS G) t))))) := by
  obtain ⟨x, f2, f3, f4, f5, f6, f7, f8, hA, ⟨m2, m3, m4, m5, m6, m7, m8⟩, hx0, hRx, hRd⟩ := id hM
  obtain ⟨x6, x7, x13, x14, x15, x16⟩ := id hRx
  obtain ⟨hV, hP, hT, hO, ⟨hb8, hb60, hb14⟩, hE, hF⟩ := id hRd
  obtain ⟨f, g, h, mO, mS, mF, mK, hfit⟩ := id hA
  have hwf := hfit.2.2.2.2
  have hnb := hwf.nb
  have hnt := hwf.nt
  refine MC_j pnX9 rfl rfl rfl (Or.inr (fun E w h => RP_no E w h)) ?_
  show J 6 mX9_blockedBy 0 [some (.ref m), some (.int y), none] [] w 0 0 _
  refine J_aload_n dX9_blockedBy_0 rfl rfl ?_
  refine J_aload_n dX9_blockedBy_1 rfl rfl ?_
  refine J_iload_n dX9_blockedBy_2 rfl rfl ?_
  refine K_callV dX9_blockedBy_3 YX9_isTrain kX9_109 (rc_of mO rfl) (c_X9_isTrain mO mS hfit _) rfl rfl (Nat.le_of_ble_eq_true rfl) (by decide) ?_
  refine J_if_eq (tgt := 13) dX9_blockedBy_6 (by decide) (fun h6 => ?_) (fun h6 => ?_)
  · skip
    have e6 : (vi (sNt (gS G)) y).isSome = false := b2i_eq.mp h6
    have e6 := isS_no e6
    refine J_iconst (v := nI 1) dX9_blockedBy_13 (by decide) ?_
    refine K_putI dX9_blockedBy_14 fX9_47 (Or.inl rfl) mO (Nat.le_of_ble_eq_true rfl) (fun w1 u1 => ?_)
    have m2 := (u1.2.1 _ (by omega)).trans m2
    have m3 := (u1.2.1 _ (by omega)).trans m3
    have m4 := (u1.2.1 _ (by omega)).trans m4
    have m5 := (u1.2.1 _ (by omega)).trans m5
    have m6 := (u1.2.1 _ (by omega)).trans m6
    have m7 := (u1.2.1 _ (by omega)).trans m7
    have m8 := (u1.2.1 _ (by omega)).trans m8
    have mF := (u1.2.1 _ (by omega)).trans mF
    have mK := (u1.2.1 _ (by omega)).trans mK
    have mO := u1.1
    have mS := (u1.2.1 _ (by omega)).trans mS
    have mO : w1.1 m = .inr (9, [.int (nI 1), .ref (m + 1), .ref (m + 2), .ref (m + 3), .ref (m + 4), .ref (m + 5), .int (x 6), .int (x 7), .ref (m + 6), .ref (m + 7), .ref (m + 8), .ref (m + 9), .ref (m + 10), .int (x 13), .int (x 14), .int (x 15), .int (x 16), .int (x 17), .int (x 18), .int (x 19), .int (x 20), .int (x 21)]) := mO
    refine J_aload_n dX9_blockedBy_17 rfl rfl ?_
    refine J_getfield dX9_blockedBy_18 fX9_47 mO rfl ?_
    refine J_if_le (tgt := 26) dX9_blockedBy_21 (by decide) (fun h21 => absurd h21 (by decide)) (fun h21 => ?_)
    refine J_iconst (v := nI 0) dX9_blockedBy_24 (by decide) ?_
    exact J_ireturn dX9_blockedBy_25 rfl rfl (GM_of (c := 1) (v := 0) (G' := G) (th := 1) (gQ_eq (onI_no e6)) (fun z => absurd z (by decide)) ((Fr.rf w m (m + 11)).up u1 (by omega) (by omega)) (by decide) ⟨va_up x 0 (nI 1), _, _, _, _, _, _, _, ⟨_, _, _, mO, mS, mF, mK, hfit⟩, ⟨m2, m3, m4, m5, m6, m7, m8⟩, (up_s _ _ _), ⟨((up_n _ _ (by decide)).trans x6), ((up_n _ _ (by decide)).trans x7), ((up_n _ _ (by decide)).trans x13), ((up_n _ _ (by decide)).trans x14), ((up_n _ _ (by decide)).trans x15), ((up_n _ _ (by decide)).trans x16)⟩, hRd⟩)
  · skip
    have e6 : (vi (sNt (gS G)) y).isSome = true := b2i_ne.mp h6
    obtain ⟨i, e6⟩ := isS_yes e6
    obtain ⟨hi, rfl⟩ := vi_some (by omega) e6
    refine J_iconst (v := nI 0) dX9_blockedBy_9 (by decide) ?_
    refine J_goto (tgt := 14) dX9_blockedBy_10 (by decide) ?_
    refine K_putI dX9_blockedBy_14 fX9_47 (Or.inl rfl) mO (Nat.le_of_ble_eq_true rfl) (fun w1 u1 => ?_)
    have m2 := (u1.2.1 _ (by omega)).trans m2
    have m3 := (u1.2.1 _ (by omega)).trans m3
    have m4 := (u1.2.1 _ (by omega)).trans m4
    have m5 := (u1.2.1 _ (by omega)).trans m5
    have m6 := (u1.2.1 _ (by omega)).trans m6
    have m7 := (u1.2.1 _ (by omega)).trans m7
    have m8 := (u1.2.1 _ (by omega)).trans m8
    have mF := (u1.2.1 _ (by omega)).trans mF
    have mK := (u1.2.1 _ (by omega)).trans mK
    have mO := u1.1
    have mS := (u1.2.1 _ (by omega)).trans mS
    have mO : w1.1 m = .inr (9, [.int (nI 0), .ref (m + 1), .ref (m + 2), .ref (m + 3), .ref (m + 4), .ref (m + 5), .int (x 6), .int (x 7), .ref (m + 6), .ref (m + 7), .ref (m + 8), .ref (m + 9), .ref (m + 10), .int (x 13), .int (x 14), .int (x 15), .int (x 16), .int (x 17), .int (x 18), .int (x 19), .int (x 20), .int (x 21)]) := mO
    refine J_aload_n dX9_blockedBy_17 rfl rfl ?_
    refine J_getfield dX9_blockedBy_18 fX9_47 mO rfl ?_
    refine J_if_le (tgt := 26) dX9_blockedBy_21 (by decide) (fun h21 => ?_) (fun h21 => absurd h21 (by decide))
    refine J_aload_n dX9_blockedBy_26 rfl rfl ?_
    refine J_iload_n dX9_blockedBy_27 rfl rfl ?_
    refine K_callVp dX9_blockedBy_28 YX9_blocker kX9_181 (rc_of mO rfl) (c_X9_blocker (x := va_up x 0 (nI 0)) ⟨_, _, _, mO, mS, mF, mK, hfit⟩ hi) rfl rfl (Nat.le_of_ble_eq_true rfl) (by decide) (fun v28 w28 q28 => ?_)
    obtain ⟨rfl, hF28, hA28⟩ := q28
    have m2 := (hF28.1 _ (by omega)).trans m2
    have m3 := (hF28.1 _ (by omega)).trans m3
    have m4 := (hF28.1 _ (by omega)).trans m4
    have m5 := (hF28.1 _ (by omega)).trans m5
    have m6 := (hF28.1 _ (by omega)).trans m6
    have m7 := (hF28.1 _ (by omega)).trans m7
    have m8 := (hF28.1 _ (by omega)).trans m8
    have mK := (hF28.1 _ (by omega)).trans mK
    have mO := (hF28.1 _ (by omega)).trans mO
    have mS := (hF28.1 _ (by omega)).trans mS
    obtain ⟨-, g28, -, -, -, mF, -, -⟩ := hA28
    refine J_istore_n dX9_blockedBy_31 rfl (by decide) rfl ?_
    refine J_iload_n dX9_blockedBy_32 rfl rfl ?_
    refine J_iconst (v := (-1)) dX9_blockedBy_33 (by decide) ?_
    refine J_icmp_ne (tgt := 45) dX9_blockedBy_34 (by decide) (fun h34 => ?_) (fun h34 => ?_)
    · skip
      obtain ⟨k34, e34⟩ : ∃ k_, bk (gS G) i = some k_ := by
        cases q : bk (gS G) i with
        | none => exact absurd ((oI_m1 (bk_b hwf)).mpr q) h34
        | some k_ => exact ⟨k_, rfl⟩
      refine J_iload_n dX9_blockedBy_45 rfl rfl ?_
      exact J_ireturn dX9_blockedBy_46 rfl rfl (GM_of (c := 0) (v := nI k34) (G' := G) (th := 0) (gQ_eq ((onI_ok e6).trans (opA_ok e34))) (fun _ => by rw [e34]; rfl) (((Fr.rf w m (m + 11)).up u1 (by omega) (by omega)).tr hF28 (by omega) (by omega)) (by decide) ⟨va_up x 0 (nI 0), _, _, _, _, _, _, _, ⟨_, _, _, mO, mS, mF, mK, hfit⟩, ⟨m2, m3, m4, m5, m6, m7, m8⟩, (up_s _ _ _), ⟨((up_n _ _ (by decide)).trans x6), ((up_n _ _ (by decide)).trans x7), ((up_n _ _ (by decide)).trans x13), ((up_n _ _ (by decide)).trans x14), ((up_n _ _ (by decide)).trans x15), ((up_n _ _ (by decide)).trans x16)⟩, hRd⟩)
    · skip
      have e34 : bk (gS G) i = none := (oI_m1 (bk_b hwf)).mp h34
      refine J_aload_n dX9_blockedBy_37 rfl rfl ?_
      refine J_iconst (v := nI 2) dX9_blockedBy_38 (by decide) ?_
      refine K_callVp dX9_blockedBy_39 YX9_fails kX9_60 (rc_of mO rfl) (c_X9_fails (x := va_up x 0 (nI 0)) mO _) rfl rfl (Nat.le_of_ble_eq_true rfl) (by decide) (fun v39 w39 q39 => ?_)
      obtain ⟨rfl, u39⟩ := q39
      have mO : w39.1 m = .inr (9, [.int (nI 2), .ref (m + 1), .ref (m + 2), .ref (m + 3), .ref (m + 4), .ref (m + 5), .int (x 6), .int (x 7), .ref (m + 6), .ref (m + 7), .ref (m + 8), .ref (m + 9), .ref (m + 10), .int (x 13), .int (x 14), .int (x 15), .int (x 16), .int (x 17), .int (x 18), .int (x 19), .int (x 20), .int (x 21)]) := u39.1
      have mS := (u39.2.1 _ (by omega)).trans mS
      have mF := (u39.2.1 _ (by omega)).trans mF
      have mK := (u39.2.1 _ (by omega)).trans mK
      have m2 := (u39.2.1 _ (by omega)).trans m2
      have m3 := (u39.2.1 _ (by omega)).trans m3
      have m4 := (u39.2.1 _ (by omega)).trans m4
      have m5 := (u39.2.1 _ (by omega)).trans m5
      have m6 := (u39.2.1 _ (by omega)).trans m6
      have m7 := (u39.2.1 _ (by omega)).trans m7
      have m8 := (u39.2.1 _ (by omega)).trans m8
      refine J_goto (tgt := 46) dX9_blockedBy_42 (by decide) ?_
      exact J_ireturn dX9_blockedBy_46 rfl rfl (GM_of (c := 5) (v := 0) (G' := G) (th := 2) (gQ_eq ((onI_ok e6).trans (opA_no e34))) (fun z => absurd z (by decide)) ((((Fr.rf w m (m + 11)).up u1 (by omega) (by omega)).tr hF28 (by omega) (by omega)).up u39 (by omega) (by omega)) (by decide) ⟨va_up x 0 (nI 2), _, _, _, _, _, _, _, ⟨_, _, _, mO, mS, mF, mK, hfit⟩, ⟨m2, m3, m4, m5, m6, m7, m8⟩, (up_s _ _ _), ⟨((up_n _ _ (by decide)).trans x6), ((up_n _ _ (by decide)).trans x7), ((up_n _ _ (by decide)).trans x13), ((up_n _ _ (by decide)).trans x14), ((up_n _ _ (by decide)).trans x15), ((up_n _ _ (by decide)).trans x16)⟩, hRd⟩)

theorem c_X9_trainByPriority {w : Wd} {m : Nat} {G : Gme} {th : Nat} (hM : RepM w m G th) (y : Int32) : MC 4 mX9_trainByPriority 0 0 [.ref m, .int y] w (GM w m [5] (gQ G (opA (rkX (gS G) y)))) := by
  obtain ⟨x, f2, f3, f4, f5, f6, f7, f8, hA, ⟨m2, m3, m4, m5, m6, m7, m8⟩, hx0, hRx, hRd⟩ := id hM
  obtain ⟨x6, x7, x13, x14, x15, x16⟩ := id hRx
  obtain ⟨hV, hP, hT, hO, ⟨hb8, hb60, hb14⟩, hE, hF⟩ := id hRd
  obtain ⟨f, g, h, mO, mS, mF, mK, hfit⟩ := id hA
  have hwf := hfit.2.2.2.2
  have hnb := hwf.nb
  have hnt := hwf.nt
  refine MC_j pnX9 rfl rfl rfl (Or.inr (fun E w h => RP_no E w h)) ?_
  show J 4 mX9_trainByPriority 0 [some (.ref m), some (.int y), none] [] w 0 0 _
  refine J_aload_n dX9_trainByPriority_0 rfl rfl ?_
  refine J_iconst (v := nI 0) dX9_trainByPriority_1 (by decide) ?_
  refine K_putI dX9_trainByPriority_2 fX9_47 (Or.inl rfl) mO (Nat.le_of_ble_eq_true rfl) (fun w1 u1 => ?_)
  have m2 := (u1.2.1 _ (by omega)).trans m2
  have m3 := (u1.2.1 _ (by omega)).trans m3
  have m4 := (u1.2.1 _ (by omega)).trans m4
  have m5 := (u1.2.1 _ (by omega)).trans m5
  have m6 := (u1.2.1 _ (by omega)).trans m6
  have m7 := (u1.2.1 _ (by omega)).trans m7
  have m8 := (u1.2.1 _ (by omega)).trans m8
  have mF := (u1.2.1 _ (by omega)).trans mF
  have mK := (u1.2.1 _ (by omega)).trans mK
  have mO := u1.1
  have mS := (u1.2.1 _ (by omega)).trans mS
  have mO : w1.1 m = .inr (9, [.int (nI 0), .ref (m + 1), .ref (m + 2), .ref (m + 3), .ref (m + 4), .ref (m + 5), .int (x 6), .int (x 7), .ref (m + 6), .ref (m + 7), .ref (m + 8), .ref (m + 9), .ref (m + 10), .int (x 13), .int (x 14), .int (x 15), .int (x 16), .int (x 17), .int (x 18), .int (x 19), .int (x 20), .int (x 21)]) := mO
  refine J_aload_n dX9_trainByPriority_5 rfl rfl ?_
  refine J_iload_n dX9_trainByPriority_6 rfl rfl ?_
  refine K_callV dX9_trainByPriority_7 YX9_ranked kX9_118 (rc_of mO rfl) (c_X9_ranked (x := va_up x 0 (nI 0)) mO mS hfit y) rfl rfl (Nat.le_of_ble_eq_true rfl) (by decide) ?_
  refine J_istore_n dX9_trainByPriority_10 rfl (by decide) rfl ?_
  refine J_iload_n dX9_trainByPriority_11 rfl rfl ?_
  refine J_iconst (v := (-1)) dX9_trainByPriority_12 (by decide) ?_
  refine J_icmp_ne (tgt := 24) dX9_trainByPriority_13 (by decide) (fun h13 => ?_) (fun h13 => ?_)
  · skip
    obtain ⟨k13, e13⟩ : ∃ k_, rkX (gS G) y = some k_ := by
      cases q : rkX (gS G) y with
      | none => exact absurd ((oI_m1 (rkX_b hwf)).mpr q) h13
      | some k_ => exact ⟨k_, rfl⟩
    refine J_iload_n dX9_trainByPriority_24 rfl rfl ?_
    exact J_ireturn dX9_trainByPriority_25 rfl rfl (GM_of (c := 0) (v := nI k13) (G' := G) (th := 0) (gQ_eq (opA_ok e13)) (fun _ => by rw [e13]; rfl) ((Fr.rf w m (m + 11)).up u1 (by omega) (by omega)) (by decide) ⟨va_up x 0 (nI 0), _, _, _, _, _, _, _, ⟨_, _, _, mO, mS, mF, mK, hfit⟩, ⟨m2, m3, m4, m5, m6, m7, m8⟩, (up_s _ _ _), ⟨((up_n _ _ (by decide)).trans x6), ((up_n _ _ (by decide)).trans x7), ((up_n _ _ (by decide)).trans x13), ((up_n _ _ (by decide)).trans x14), ((up_n _ _ (by decide)).trans x15), ((up_n _ _ (by decide)).trans x16)⟩, hRd⟩)
  · skip
    have e13 : rkX (gS G) y = none := (oI_m1 (rkX_b hwf)).mp h13
    refine J_aload_n dX9_trainByPriority_16 rfl rfl ?_
    refine J_iconst (v := nI 1) dX9_trainByPriority_17 (by decide) ?_
    refine K_callVp dX9_trainByPriority_18 YX9_fails kX9_60 (rc_of mO rfl) (c_X9_fails (x := va_up x 0 (nI 0)) mO _) rfl rfl (Nat.le_of_ble_eq_true rfl) (by decide) (fun v18 w18 q18 => ?_)
    obtain ⟨rfl, u18⟩ := q18
    have mO : w18.1 m = .inr (9, [.int (nI 1), .ref (m + 1), .ref (m + 2), .ref (m + 3), .ref (m + 4), .ref (m + 5), .int (x 6), .int (x 7), .ref (m + 6), .ref (m + 7), .ref (m + 8), .ref (m + 9), .ref (m + 10), .int (x 13), .int (x 14), .int (x 15), .int (x 16), .int (x 17), .int (x 18), .int (x 19), .int (x 20), .int (x 21)]) := u18.1
    have mS := (u18.2.1 _ (by omega)).trans mS
    have mF := (u18.2.1 _ (by omega)).trans mF
    have mK := (u18.2.1 _ (by omega)).trans mK
    have m2 := (u18.2.1 _ (by omega)).trans m2
    have m3 := (u18.2.1 _ (by omega)).trans m3
    have m4 := (u18.2.1 _ (by omega)).trans m4
    have m5 := (u18.2.1 _ (by omega)).trans m5
    have m6 := (u18.2.1 _ (by omega)).trans m6
    have m7 := (u18.2.1 _ (by omega)).trans m7
    have m8 := (u18.2.1 _ (by omega)).trans m8
    refine J_goto (tgt := 25) dX9_trainByPriority_21 (by decide) ?_
    exact J_ireturn dX9_trainByPriority_25 rfl rfl (GM_of (c := 5) (v := 0) (G' := G) (th := 1) (gQ_eq (opA_no e13)) (fun z => absurd z (by decide)) (((Fr.rf w m (m + 11)).up u1 (by omega) (by omega)).up u18 (by omega) (by omega)) (by decide) ⟨va_up x 0 (nI 1), _, _, _, _, _, _, _, ⟨_, _, _, mO, mS, mF, mK, hfit⟩, ⟨m2, m3, m4, m5, m6, m7, m8⟩, (up_s _ _ _), ⟨((up_n _ _ (by decide)).trans x6), ((up_n _ _ (by decide)).trans x7), ((up_n _ _ (by decide)).trans x13), ((up_n _ _ (by decide)).trans x14), ((up_n _ _ (by decide)).trans x15), ((up_n _ _ (by decide)).trans x16)⟩, hRd⟩)

end JMASK2

/-! THE MODEL: output, input, what is kept -/
section JMIO
theorem c_X9_writeTrain {w : Wd} {m : Nat} {G : Gme} {th : Nat} (hM : RepM w m G th) (y : Int32) : MC 4 mX9_writeTrain 0 0 [.ref m, .int y] w (GM w m [1] (gTrn G y)) := by
  obtain ⟨x, f2, f3, f4, f5, f6, f7, f8, hA, ⟨m2, m3, m4, m5, m6, m7, m8⟩, hx0, hRx, hRd⟩ := id hM
  obtain ⟨x6, x7, x13, x14, x15, x16⟩ := id hRx
  obtain ⟨hV, hP, hT, hO, ⟨hb8, hb60, hb14⟩, hE, hF⟩ := id hRd
  obtain ⟨f, g, h, mO, mS, mF, mK, hfit⟩ := id hA
  have hwf := hfit.2.2.2.2
  have hnb := hwf.nb
  have hnt := hwf.nt
  refine MC_j pnX9 rfl rfl rfl (Or.inr (fun E w h => RP_no E w h)) ?_
  show J 4 mX9_writeTrain 0 [some (.ref m), some (.int y)] [] w 0 0 _
  refine J_aload_n dX9_writeTrain_0 rfl rfl ?_
  refine J_aload_n dX9_writeTrain_1 rfl rfl ?_
  refine J_iload_n dX9_writeTrain_2 rfl rfl ?_
  refine K_callV dX9_writeTrain_3 YX9_isTrain kX9_109 (rc_of mO rfl) (c_X9_isTrain mO mS hfit _) rfl rfl (Nat.le_of_ble_eq_true rfl) (by decide) ?_
  refine J_if_eq (tgt := 13) dX9_writeTrain_6 (by decide) (fun h6 => ?_) (fun h6 => ?_)
  · skip
    have e6 : (vi (sNt (gS G)) y).isSome = false := b2i_eq.mp h6
    have e6 := isS_no e6
    refine J_iconst (v := nI 1) dX9_writeTrain_13 (by decide) ?_
    refine K_putI dX9_writeTrain_14 fX9_47 (Or.inl rfl) mO (Nat.le_of_ble_eq_true rfl) (fun w1 u1 => ?_)
    have m2 := (u1.2.1 _ (by omega)).trans m2
    have m3 := (u1.2.1 _ (by omega)).trans m3
    have m4 := (u1.2.1 _ (by omega)).trans m4
    have m5 := (u1.2.1 _ (by omega)).trans m5
    have m6 := (u1.2.1 _ (by omega)).trans m6
    have m7 := (u1.2.1 _ (by omega)).trans m7
    have m8 := (u1.2.1 _ (by omega)).trans m8
    have mF := (u1.2.1 _ (by omega)).trans mF
    have mK := (u1.2.1 _ (by omega)).trans mK
    have mO := u1.1
    have mS := (u1.2.1 _ (by omega)).trans mS
    have mO : w1.1 m = .inr (9, [.int (nI 1), .ref (m + 1), .ref (m + 2), .ref (m + 3), .ref (m + 4), .ref (m + 5), .int (x 6), .int (x 7), .ref (m + 6), .ref (m + 7), .ref (m + 8), .ref (m + 9), .ref (m + 10), .int (x 13), .int (x 14), .int (x 15), .int (x 16), .int (x 17), .int (x 18), .int (x 19), .int (x 20), .int (x 21)]) := mO
    refine J_aload_n dX9_writeTrain_17 rfl rfl ?_
    refine J_getfield dX9_writeTrain_18 fX9_47 mO rfl ?_
    refine J_if_le (tgt := 26) dX9_writeTrain_21 (by decide) (fun h21 => absurd h21 (by decide)) (fun h21 => ?_)
    refine J_iconst (v := nI 0) dX9_writeTrain_24 (by decide) ?_
    exact J_ireturn dX9_writeTrain_25 rfl rfl (GM_of (c := 1) (v := 0) (G' := G) (th := 1) (by unfold gTrn; rw [e6]) (fun z => absurd z (by decide)) ((Fr.rf w m (m + 11)).up u1 (by omega) (by omega)) (by decide) ⟨va_up x 0 (nI 1), _, _, _, _, _, _, _, ⟨_, _, _, mO, mS, mF, mK, hfit⟩, ⟨m2, m3, m4, m5, m6, m7, m8⟩, (up_s _ _ _), ⟨((up_n _ _ (by decide)).trans x6), ((up_n _ _ (by decide)).trans x7), ((up_n _ _ (by decide)).trans x13), ((up_n _ _ (by decide)).trans x14), ((up_n _ _ (by decide)).trans x15), ((up_n _ _ (by decide)).trans x16)⟩, hRd⟩)
  · skip
    have e6 : (vi (sNt (gS G)) y).isSome = true := b2i_ne.mp h6
    obtain ⟨i, e6⟩ := isS_yes e6
    obtain ⟨hi, rfl⟩ := vi_some (by omega) e6
    refine J_iconst (v := nI 0) dX9_writeTrain_9 (by decide) ?_
    refine J_goto (tgt := 14) dX9_writeTrain_10 (by decide) ?_
    refine K_putI dX9_writeTrain_14 fX9_47 (Or.inl rfl) mO (Nat.le_of_ble_eq_true rfl) (fun w1 u1 => ?_)
    have m2 := (u1.2.1 _ (by omega)).trans m2
    have m3 := (u1.2.1 _ (by omega)).trans m3
    have m4 := (u1.2.1 _ (by omega)).trans m4
    have m5 := (u1.2.1 _ (by omega)).trans m5
    have m6 := (u1.2.1 _ (by omega)).trans m6
    have m7 := (u1.2.1 _ (by omega)).trans m7
    have m8 := (u1.2.1 _ (by omega)).trans m8
    have mF := (u1.2.1 _ (by omega)).trans mF
    have mK := (u1.2.1 _ (by omega)).trans mK
    have mO := u1.1
    have mS := (u1.2.1 _ (by omega)).trans mS
    have mO : w1.1 m = .inr (9, [.int (nI 0), .ref (m + 1), .ref (m + 2), .ref (m + 3), .ref (m + 4), .ref (m + 5), .int (x 6), .int (x 7), .ref (m + 6), .ref (m + 7), .ref (m + 8), .ref (m + 9), .ref (m + 10), .int (x 13), .int (x 14), .int (x 15), .int (x 16), .int (x 17), .int (x 18), .int (x 19), .int (x 20), .int (x 21)]) := mO
    refine J_aload_n dX9_writeTrain_17 rfl rfl ?_
    refine J_getfield dX9_writeTrain_18 fX9_47 mO rfl ?_
    refine J_if_le (tgt := 26) dX9_writeTrain_21 (by decide) (fun h21 => ?_) (fun h21 => absurd h21 (by decide))
    refine J_aload_n dX9_writeTrain_26 rfl rfl ?_
    refine J_iconst (v := nI 0) dX9_writeTrain_27 (by decide) ?_
    refine K_putI dX9_writeTrain_28 fX9_190 (Or.inl rfl) mO (Nat.le_of_ble_eq_true rfl) (fun w2 u2 => ?_)
    have m2 := (u2.2.1 _ (by omega)).trans m2
    have m3 := (u2.2.1 _ (by omega)).trans m3
    have m4 := (u2.2.1 _ (by omega)).trans m4
    have m5 := (u2.2.1 _ (by omega)).trans m5
    have m6 := (u2.2.1 _ (by omega)).trans m6
    have m7 := (u2.2.1 _ (by omega)).trans m7
    have m8 := (u2.2.1 _ (by omega)).trans m8
    have mF := (u2.2.1 _ (by omega)).trans mF
    have mK := (u2.2.1 _ (by omega)).trans mK
    have mO := u2.1
    have mS := (u2.2.1 _ (by omega)).trans mS
    have mO : w2.1 m = .inr (9, [.int (nI 0), .ref (m + 1), .ref (m + 2), .ref (m + 3), .ref (m + 4), .ref (m + 5), .int (x 6), .int (x 7), .ref (m + 6), .ref (m + 7), .ref (m + 8), .ref (m + 9), .ref (m + 10), .int (x 13), .int (nI 0), .int (x 15), .int (x 16), .int (x 17), .int (x 18), .int (x 19), .int (x 20), .int (x 21)]) := mO
    have hL31_ : OuL w2 m (va_up (va_up x 0 (nI 0)) 14 (nI 0)) [] := ⟨mO, rfl, f8, m8, fun j hj => absurd hj (Nat.not_lt_zero j)⟩
    have hxx : ∀ j, j ≠ 14 → (va_up (va_up x 0 (nI 0)) 14 (nI 0)) j = (va_up x 0 (nI 0)) j := fun j hj => up_n _ _ hj
    have hpt := hwf.2.2.2.2.1 i hi
    refine J_aload_n dX9_writeTrain_31 rfl rfl ?_
    refine J_bipush (v := nI 84) dX9_writeTrain_32 (by decide) ?_
    refine K_callVp dX9_writeTrain_34 YX9_writes kX9_193 (rc_of mO rfl) (c_X9_writes hL31_ (by have a1 := numL_le i; have a2 := numL_le (sPl (gS G) i); have a3 := numL_le (sRe (gS G) i); simp only [List.length_append, List.length_cons, List.length_nil]; omega) _) rfl rfl (Nat.le_of_ble_eq_true rfl) (by decide) (fun v34 w34 q34 => ?_)
    obtain ⟨rfl, hF34, x34, hL34, hx34⟩ := q34
    have m2 := (hF34.1 _ (by omega)).trans m2
    have m3 := (hF34.1 _ (by omega)).trans m3
    have m4 := (hF34.1 _ (by omega)).trans m4
    have m5 := (hF34.1 _ (by omega)).trans m5
    have m6 := (hF34.1 _ (by omega)).trans m6
    have m7 := (hF34.1 _ (by omega)).trans m7
    have mF := (hF34.1 _ (by omega)).trans mF
    have mK := (hF34.1 _ (by omega)).trans mK
    have mS := (hF34.1 _ (by omega)).trans mS
    have mO := hL34.1
    have hxx := fun j (hj : j ≠ 14) => (hx34 j hj).trans (hxx j hj)
    refine J_aload_n dX9_writeTrain_37 rfl rfl ?_
    refine J_iload_n dX9_writeTrain_38 rfl rfl ?_
    refine K_callVp dX9_writeTrain_39 YX9_writesNumber kX9_196 (rc_of mO rfl) (c_X9_writesNumber hL34 (by have a1 := numL_le i; have a2 := numL_le (sPl (gS G) i); have a3 := numL_le (sRe (gS G) i); simp only [List.length_append, List.length_cons, List.length_nil]; omega) (show i < 100 by omega)) rfl rfl (Nat.le_of_ble_eq_true rfl) (by decide) (fun v39 w39 q39 => ?_)
    obtain ⟨rfl, hF39, x39, hL39, hx39⟩ := q39
    have m2 := (hF39.1 _ (by omega)).trans m2
    have m3 := (hF39.1 _ (by omega)).trans m3
    have m4 := (hF39.1 _ (by omega)).trans m4
    have m5 := (hF39.1 _ (by omega)).trans m5
    have m6 := (hF39.1 _ (by omega)).trans m6
    have m7 := (hF39.1 _ (by omega)).trans m7
    have mF := (hF39.1 _ (by omega)).trans mF
    have mK := (hF39.1 _ (by omega)).trans mK
    have mS := (hF39.1 _ (by omega)).trans mS
    have mO := hL39.1
    have hxx := fun j (hj : j ≠ 14) => (hx39 j hj).trans (hxx j hj)
    refine J_aload_n dX9_writeTrain_42 rfl rfl ?_
    refine J_bipush (v := nI 64) dX9_writeTrain_43 (by decide) ?_
    refine K_callVp dX9_writeTrain_45 YX9_writes kX9_193 (rc_of mO rfl) (c_X9_writes hL39 (by have a1 := numL_le i; have a2 := numL_le (sPl (gS G) i); have a3 := numL_le (sRe (gS G) i); simp only [List.length_append, List.length_cons, List.length_nil]; omega) _) rfl rfl (Nat.le_of_ble_eq_true rfl) (by decide) (fun v45 w45 q45 => ?_)
    obtain ⟨rfl, hF45, x45, hL45, hx45⟩ := q45
    have m2 := (hF45.1 _ (by omega)).trans m2
    have m3 := (hF45.1 _ (by omega)).trans m3
    have m4 := (hF45.1 _ (by omega)).trans m4
    have m5 := (hF45.1 _ (by omega)).trans m5
    have m6 := (hF45.1 _ (by omega)).trans m6
    have m7 := (hF45.1 _ (by omega)).trans m7
    have mF := (hF45.1 _ (by omega)).trans mF
    have mK := (hF45.1 _ (by omega)).trans mK
    have mS := (hF45.1 _ (by omega)).trans mS
    have mO := hL45.1
    have hxx := fun j (hj : j ≠ 14) => (hx45 j hj).trans (hxx j hj)
    refine J_aload_n dX9_writeTrain_48 rfl rfl ?_
    refine J_aload_n dX9_writeTrain_49 rfl rfl ?_
    refine J_iload_n dX9_writeTrain_50 rfl rfl ?_
    refine J_iconst (v := nI 0) dX9_writeTrain_51 (by decide) ?_
    refine K_callV dX9_writeTrain_52 YX9_train kX9_75 (rc_of mO rfl) (c_X9_tPl (x := x45) mO mS hfit hi) rfl rfl (Nat.le_of_ble_eq_true rfl) (by decide) ?_
    refine K_callVp dX9_writeTrain_55 YX9_writesNumber kX9_196 (rc_of mO rfl) (c_X9_writesNumber hL45 (by have a1 := numL_le i; have a2 := numL_le (sPl (gS G) i); have a3 := numL_le (sRe (gS G) i); simp only [List.length_append, List.length_cons, List.length_nil]; omega) (show sPl (gS G) i < 100 by omega)) rfl rfl (Nat.le_of_ble_eq_true rfl) (by decide) (fun v55 w55 q55 => ?_)
    obtain ⟨rfl, hF55, x55, hL55, hx55⟩ := q55
    have m2 := (hF55.1 _ (by omega)).trans m2
    have m3 := (hF55.1 _ (by omega)).trans m3
    have m4 := (hF55.1 _ (by omega)).trans m4
    have m5 := (hF55.1 _ (by omega)).trans m5
    have m6 := (hF55.1 _ (by omega)).trans m6
    have m7 := (hF55.1 _ (by omega)).trans m7
    have mF := (hF55.1 _ (by omega)).trans mF
    have mK := (hF55.1 _ (by omega)).trans mK
    have mS := (hF55.1 _ (by omega)).trans mS
    have mO := hL55.1
    have hxx := fun j (hj : j ≠ 14) => (hx55 j hj).trans (hxx j hj)
    refine J_aload_n dX9_writeTrain_58 rfl rfl ?_
    refine J_iload_n dX9_writeTrain_59 rfl rfl ?_
    refine J_iconst (v := nI 2) dX9_writeTrain_60 (by decide) ?_
    refine K_callV dX9_writeTrain_61 YX9_train kX9_75 (rc_of mO rfl) (c_X9_tRe (x := x55) mO mS hfit hi) rfl rfl (Nat.le_of_ble_eq_true rfl) (by decide) ?_
    refine J_if_le (tgt := 83) dX9_writeTrain_64 (by decide) (fun h64 => ?_) (fun h64 => ?_)
    · skip
      have h64 := (nI_leI (b := 0) (by omega) (by omega)).mp h64
      have h64 : sRe (gS G) i = 0 := by omega
      refine J_aload_n dX9_writeTrain_83 rfl rfl ?_
      refine J_iload_n dX9_writeTrain_84 rfl rfl ?_
      refine K_callV dX9_writeTrain_85 YX9_goalOf kX9_81 (rc_of mO rfl) (c_X9_goalOf (x := x55) mO mS hfit hi) rfl rfl (Nat.le_of_ble_eq_true rfl) (by decide) ?_
      refine J_iconst (v := (-1)) dX9_writeTrain_88 (by decide) ?_
      refine J_icmp_eq (tgt := 107) dX9_writeTrain_89 (by decide) (fun h89 => ?_) (fun h89 => ?_)
      · skip
        have e89 : sGo (gS G) i = none := (oI_m1 (sGo_b hwf hi)).mp h89
        refine J_aload_n dX9_writeTrain_107 rfl rfl ?_
        refine J_iload_n dX9_writeTrain_108 rfl rfl ?_
        refine J_iconst (v := nI 4) dX9_writeTrain_109 (by decide) ?_
        refine K_callV dX9_writeTrain_110 YX9_train kX9_75 (rc_of mO rfl) (c_X9_tOf (x := x55) mO mS hfit hi) rfl rfl (Nat.le_of_ble_eq_true rfl) (by decide) ?_
        refine J_iconst (v := nI 1) dX9_writeTrain_113 (by decide) ?_
        refine J_icmp_ne (tgt := 123) dX9_writeTrain_114 (by decide) (fun h114 => ?_) (fun h114 => ?_)
        · skip
          have e114 : sOf (gS G) i = false := b2i_n1 h114
          refine J_aload_n dX9_writeTrain_123 rfl rfl ?_
          refine J_getfield dX9_writeTrain_124 fX9_190 mO rfl ?_
          have hl : trL (gS G) i = _ := (show trL (gS G) i = ((([] ++ [84]) ++ numL i) ++ [64]) ++ numL (sPl (gS G) i) from by simp [trL, markL_is, h64, e89, e114])
          rw [← hl] at hL55
          obtain ⟨mO, h14, f8n, m8, ho⟩ := hL55
          have hll := trL_len hwf hi
          exact J_ireturn dX9_writeTrain_127 rfl rfl (GM_of (c := 0) (v := nI (trL (gS G) i).length) (G' := gOut G (trL (gS G) i)) (th := 0) (by unfold gTrn; rw [e6]) (fun _ => h14) (((((((Fr.rf w m (m + 11)).up u1 (by omega) (by omega)).up u2 (by omega) (by omega)).tr hF34.fr (by omega) (by omega)).tr hF39.fr (by omega) (by omega)).tr hF45.fr (by omega) (by omega)).tr hF55.fr (by omega) (by omega)) rfl ⟨x55, f2, f3, f4, f5, f6, f7, f8n, ⟨_, _, _, mO, mS, mF, mK, hfit⟩, ⟨m2, m3, m4, m5, m6, m7, m8⟩, (hxx 0 (by decide)).trans (up_s _ _ _), ⟨(hxx 6 (by decide)).trans ((up_n _ _ (by decide)).trans x6), (hxx 7 (by decide)).trans ((up_n _ _ (by decide)).trans x7), (hxx 13 (by decide)).trans ((up_n _ _ (by decide)).trans x13), h14, (hxx 15 (by decide)).trans ((up_n _ _ (by decide)).trans x15), (hxx 16 (by decide)).trans ((up_n _ _ (by decide)).trans x16)⟩, ⟨hV, hP, hT, ho, ⟨hb8, hb60, by show (trL (gS G) i).length ≤ 14; omega, getD_ch (trL_ch hwf hi)⟩, hE, hF⟩⟩)
        · skip
          have e114 : sOf (gS G) i = true := b2i_1.mp h114
          refine J_aload_n dX9_writeTrain_117 rfl rfl ?_
          refine J_bipush (v := nI 33) dX9_writeTrain_118 (by decide) ?_
          refine K_callVp dX9_writeTrain_120 YX9_writes kX9_193 (rc_of mO rfl) (c_X9_writes hL55 (by have a1 := numL_le i; have a2 := numL_le (sPl (gS G) i); have a3 := numL_le (sRe (gS G) i); simp only [List.length_append, List.length_cons, List.length_nil]; omega) _) rfl rfl (Nat.le_of_ble_eq_true rfl) (by decide) (fun v120 w120 q120 => ?_)
          obtain ⟨rfl, hF120, x120, hL120, hx120⟩ := q120
          have m2 := (hF120.1 _ (by omega)).trans m2
          have m3 := (hF120.1 _ (by omega)).trans m3
          have m4 := (hF120.1 _ (by omega)).trans m4
          have m5 := (hF120.1 _ (by omega)).trans m5
          have m6 := (hF120.1 _ (by omega)).trans m6
          have m7 := (hF120.1 _ (by omega)).trans m7
          have mF := (hF120.1 _ (by omega)).trans mF
          have mK := (hF120.1 _ (by omega)).trans mK
          have mS := (hF120.1 _ (by omega)).trans mS
          have mO := hL120.1
          have hxx := fun j (hj : j ≠ 14) => (hx120 j hj).trans (hxx j hj)
          refine J_aload_n dX9_writeTrain_123 rfl rfl ?_
          refine J_getfield dX9_writeTrain_124 fX9_190 mO rfl ?_
          have hl : trL (gS G) i = _ := (show trL (gS G) i = (((([] ++ [84]) ++ numL i) ++ [64]) ++ numL (sPl (gS G) i)) ++ [33] from by simp [trL, markL_is, h64, e89, e114])
          rw [← hl] at hL120
          obtain ⟨mO, h14, f8n, m8, ho⟩ := hL120
          have hll := trL_len hwf hi
          exact J_ireturn dX9_writeTrain_127 rfl rfl (GM_of (c := 0) (v := nI (trL (gS G) i).length) (G' := gOut G (trL (gS G) i)) (th := 0) (by unfold gTrn; rw [e6]) (fun _ => h14) ((((((((Fr.rf w m (m + 11)).up u1 (by omega) (by omega)).up u2 (by omega) (by omega)).tr hF34.fr (by omega) (by omega)).tr hF39.fr (by omega) (by omega)).tr hF45.fr (by omega) (by omega)).tr hF55.fr (by omega) (by omega)).tr hF120.fr (by omega) (by omega)) rfl ⟨x120, f2, f3, f4, f5, f6, f7, f8n, ⟨_, _, _, mO, mS, mF, mK, hfit⟩, ⟨m2, m3, m4, m5, m6, m7, m8⟩, (hxx 0 (by decide)).trans (up_s _ _ _), ⟨(hxx 6 (by decide)).trans ((up_n _ _ (by decide)).trans x6), (hxx 7 (by decide)).trans ((up_n _ _ (by decide)).trans x7), (hxx 13 (by decide)).trans ((up_n _ _ (by decide)).trans x13), h14, (hxx 15 (by decide)).trans ((up_n _ _ (by decide)).trans x15), (hxx 16 (by decide)).trans ((up_n _ _ (by decide)).trans x16)⟩, ⟨hV, hP, hT, ho, ⟨hb8, hb60, by show (trL (gS G) i).length ≤ 14; omega, getD_ch (trL_ch hwf hi)⟩, hE, hF⟩⟩)
      · skip
        obtain ⟨kg, e89⟩ : ∃ k_, sGo (gS G) i = some k_ := by
          cases q : sGo (gS G) i with
          | none => exact absurd ((oI_m1 (sGo_b hwf hi)).mpr q) h89
          | some k_ => exact ⟨k_, rfl⟩
        have hgb := hwf.2.2.2.2.2.1 i hi kg e89
        refine J_aload_n dX9_writeTrain_92 rfl rfl ?_
        refine J_bipush (v := nI 62) dX9_writeTrain_93 (by decide) ?_
        refine K_callVp dX9_writeTrain_95 YX9_writes kX9_193 (rc_of mO rfl) (c_X9_writes hL55 (by have a1 := numL_le i; have a2 := numL_le (sPl (gS G) i); have a3 := numL_le (sRe (gS G) i); have a4 := numL_le kg; simp only [List.length_append, List.length_cons, List.length_nil]; omega) _) rfl rfl (Nat.le_of_ble_eq_true rfl) (by decide) (fun v95 w95 q95 => ?_)
        obtain ⟨rfl, hF95, x95, hL95, hx95⟩ := q95
        have m2 := (hF95.1 _ (by omega)).trans m2
        have m3 := (hF95.1 _ (by omega)).trans m3
        have m4 := (hF95.1 _ (by omega)).trans m4
        have m5 := (hF95.1 _ (by omega)).trans m5
        have m6 := (hF95.1 _ (by omega)).trans m6
        have m7 := (hF95.1 _ (by omega)).trans m7
        have mF := (hF95.1 _ (by omega)).trans mF
        have mK := (hF95.1 _ (by omega)).trans mK
        have mS := (hF95.1 _ (by omega)).trans mS
        have mO := hL95.1
        have hxx := fun j (hj : j ≠ 14) => (hx95 j hj).trans (hxx j hj)
        refine J_aload_n dX9_writeTrain_98 rfl rfl ?_
        refine J_aload_n dX9_writeTrain_99 rfl rfl ?_
        refine J_iload_n dX9_writeTrain_100 rfl rfl ?_
        refine K_callV dX9_writeTrain_101 YX9_goalOf kX9_81 (rc_of mO rfl) (c_X9_goalOf (x := x95) mO mS hfit hi) rfl rfl (Nat.le_of_ble_eq_true rfl) (by decide) ?_
        rw [e89, oI_s]
        refine K_callVp dX9_writeTrain_104 YX9_writesNumber kX9_196 (rc_of mO rfl) (c_X9_writesNumber hL95 (by have a1 := numL_le i; have a2 := numL_le (sPl (gS G) i); have a3 := numL_le (sRe (gS G) i); have a4 := numL_le kg; simp only [List.length_append, List.length_cons, List.length_nil]; omega) (show kg < 100 by omega)) rfl rfl (Nat.le_of_ble_eq_true rfl) (by decide) (fun v104 w104 q104 => ?_)
        obtain ⟨rfl, hF104, x104, hL104, hx104⟩ := q104
        have m2 := (hF104.1 _ (by omega)).trans m2
        have m3 := (hF104.1 _ (by omega)).trans m3
        have m4 := (hF104.1 _ (by omega)).trans m4
        have m5 := (hF104.1 _ (by omega)).trans m5
        have m6 := (hF104.1 _ (by omega)).trans m6
        have m7 := (hF104.1 _ (by omega)).trans m7
        have mF := (hF104.1 _ (by omega)).trans mF
        have mK := (hF104.1 _ (by omega)).trans mK
        have mS := (hF104.1 _ (by omega)).trans mS
        have mO := hL104.1
        have hxx := fun j (hj : j ≠ 14) => (hx104 j hj).trans (hxx j hj)
        refine J_aload_n dX9_writeTrain_107 rfl rfl ?_
        refine J_iload_n dX9_writeTrain_108 rfl rfl ?_
        refine J_iconst (v := nI 4) dX9_writeTrain_109 (by decide) ?_
        refine K_callV dX9_writeTrain_110 YX9_train kX9_75 (rc_of mO rfl) (c_X9_tOf (x := x104) mO mS hfit hi) rfl rfl (Nat.le_of_ble_eq_true rfl) (by decide) ?_
        refine J_iconst (v := nI 1) dX9_writeTrain_113 (by decide) ?_
        refine J_icmp_ne (tgt := 123) dX9_writeTrain_114 (by decide) (fun h114 => ?_) (fun h114 => ?_)
        · skip
          have e114 : sOf (gS G) i = false := b2i_n1 h114
          refine J_aload_n dX9_writeTrain_123 rfl rfl ?_
          refine J_getfield dX9_writeTrain_124 fX9_190 mO rfl ?_
          have hl : trL (gS G) i = _ := (show trL (gS G) i = ((((([] ++ [84]) ++ numL i) ++ [64]) ++ numL (sPl (gS G) i)) ++ [62]) ++ numL kg from by simp [trL, markL_is, h64, e89, e114])
          rw [← hl] at hL104
          obtain ⟨mO, h14, f8n, m8, ho⟩ := hL104
          have hll := trL_len hwf hi
          exact J_ireturn dX9_writeTrain_127 rfl rfl (GM_of (c := 0) (v := nI (trL (gS G) i).length) (G' := gOut G (trL (gS G) i)) (th := 0) (by unfold gTrn; rw [e6]) (fun _ => h14) (((((((((Fr.rf w m (m + 11)).up u1 (by omega) (by omega)).up u2 (by omega) (by omega)).tr hF34.fr (by omega) (by omega)).tr hF39.fr (by omega) (by omega)).tr hF45.fr (by omega) (by omega)).tr hF55.fr (by omega) (by omega)).tr hF95.fr (by omega) (by omega)).tr hF104.fr (by omega) (by omega)) rfl ⟨x104, f2, f3, f4, f5, f6, f7, f8n, ⟨_, _, _, mO, mS, mF, mK, hfit⟩, ⟨m2, m3, m4, m5, m6, m7, m8⟩, (hxx 0 (by decide)).trans (up_s _ _ _), ⟨(hxx 6 (by decide)).trans ((up_n _ _ (by decide)).trans x6), (hxx 7 (by decide)).trans ((up_n _ _ (by decide)).trans x7), (hxx 13 (by decide)).trans ((up_n _ _ (by decide)).trans x13), h14, (hxx 15 (by decide)).trans ((up_n _ _ (by decide)).trans x15), (hxx 16 (by decide)).trans ((up_n _ _ (by decide)).trans x16)⟩, ⟨hV, hP, hT, ho, ⟨hb8, hb60, by show (trL (gS G) i).length ≤ 14; omega, getD_ch (trL_ch hwf hi)⟩, hE, hF⟩⟩)
        · skip
          have e114 : sOf (gS G) i = true := b2i_1.mp h114
          refine J_aload_n dX9_writeTrain_117 rfl rfl ?_
          refine J_bipush (v := nI 33) dX9_writeTrain_118 (by decide) ?_
          refine K_callVp dX9_writeTrain_120 YX9_writes kX9_193 (rc_of mO rfl) (c_X9_writes hL104 (by have a1 := numL_le i; have a2 := numL_le (sPl (gS G) i); have a3 := numL_le (sRe (gS G) i); have a4 := numL_le kg; simp only [List.length_append, List.length_cons, List.length_nil]; omega) _) rfl rfl (Nat.le_of_ble_eq_true rfl) (by decide) (fun v120 w120 q120 => ?_)
          obtain ⟨rfl, hF120, x120, hL120, hx120⟩ := q120
          have m2 := (hF120.1 _ (by omega)).trans m2
          have m3 := (hF120.1 _ (by omega)).trans m3
          have m4 := (hF120.1 _ (by omega)).trans m4
          have m5 := (hF120.1 _ (by omega)).trans m5
          have m6 := (hF120.1 _ (by omega)).trans m6
          have m7 := (hF120.1 _ (by omega)).trans m7
          have mF := (hF120.1 _ (by omega)).trans mF
          have mK := (hF120.1 _ (by omega)).trans mK
          have mS := (hF120.1 _ (by omega)).trans mS
          have mO := hL120.1
          have hxx := fun j (hj : j ≠ 14) => (hx120 j hj).trans (hxx j hj)
          refine J_aload_n dX9_writeTrain_123 rfl rfl ?_
          refine J_getfield dX9_writeTrain_124 fX9_190 mO rfl ?_
          have hl : trL (gS G) i = _ := (show trL (gS G) i = (((((([] ++ [84]) ++ numL i) ++ [64]) ++ numL (sPl (gS G) i)) ++ [62]) ++ numL kg) ++ [33] from by simp [trL, markL_is, h64, e89, e114])
          rw [← hl] at hL120
          obtain ⟨mO, h14, f8n, m8, ho⟩ := hL120
          have hll := trL_len hwf hi
          exact J_ireturn dX9_writeTrain_127 rfl rfl (GM_of (c := 0) (v := nI (trL (gS G) i).length) (G' := gOut G (trL (gS G) i)) (th := 0) (by unfold gTrn; rw [e6]) (fun _ => h14) ((((((((((Fr.rf w m (m + 11)).up u1 (by omega) (by omega)).up u2 (by omega) (by omega)).tr hF34.fr (by omega) (by omega)).tr hF39.fr (by omega) (by omega)).tr hF45.fr (by omega) (by omega)).tr hF55.fr (by omega) (by omega)).tr hF95.fr (by omega) (by omega)).tr hF104.fr (by omega) (by omega)).tr hF120.fr (by omega) (by omega)) rfl ⟨x120, f2, f3, f4, f5, f6, f7, f8n, ⟨_, _, _, mO, mS, mF, mK, hfit⟩, ⟨m2, m3, m4, m5, m6, m7, m8⟩, (hxx 0 (by decide)).trans (up_s _ _ _), ⟨(hxx 6 (by decide)).trans ((up_n _ _ (by decide)).trans x6), (hxx 7 (by decide)).trans ((up_n _ _ (by decide)).trans x7), (hxx 13 (by decide)).trans ((up_n _ _ (by decide)).trans x13), h14, (hxx 15 (by decide)).trans ((up_n _ _ (by decide)).trans x15), (hxx 16 (by decide)).trans ((up_n _ _ (by decide)).trans x16)⟩, ⟨hV, hP, hT, ho, ⟨hb8, hb60, by show (trL (gS G) i).length ≤ 14; omega, getD_ch (trL_ch hwf hi)⟩, hE, hF⟩⟩)
    · skip
      have h64 := mt (nI_leI (b := 0) (by omega) (by omega)).mpr h64
      have h64 : 0 < sRe (gS G) i := by omega
      refine J_aload_n dX9_writeTrain_67 rfl rfl ?_
      refine J_bipush (v := nI 43) dX9_writeTrain_68 (by decide) ?_
      refine K_callVp dX9_writeTrain_70 YX9_writes kX9_193 (rc_of mO rfl) (c_X9_writes hL55 (by have a1 := numL_le i; have a2 := numL_le (sPl (gS G) i); have a3 := numL_le (sRe (gS G) i); simp only [List.length_append, List.length_cons, List.length_nil]; omega) _) rfl rfl (Nat.le_of_ble_eq_true rfl) (by decide) (fun v70 w70 q70 => ?_)
      obtain ⟨rfl, hF70, x70, hL70, hx70⟩ := q70
      have m2 := (hF70.1 _ (by omega)).trans m2
      have m3 := (hF70.1 _ (by omega)).trans m3
      have m4 := (hF70.1 _ (by omega)).trans m4
      have m5 := (hF70.1 _ (by omega)).trans m5
      have m6 := (hF70.1 _ (by omega)).trans m6
      have m7 := (hF70.1 _ (by omega)).trans m7
      have mF := (hF70.1 _ (by omega)).trans mF
      have mK := (hF70.1 _ (by omega)).trans mK
      have mS := (hF70.1 _ (by omega)).trans mS
      have mO := hL70.1
      have hxx := fun j (hj : j ≠ 14) => (hx70 j hj).trans (hxx j hj)
      refine J_aload_n dX9_writeTrain_73 rfl rfl ?_
      refine J_aload_n dX9_writeTrain_74 rfl rfl ?_
      refine J_iload_n dX9_writeTrain_75 rfl rfl ?_
      refine J_iconst (v := nI 2) dX9_writeTrain_76 (by decide) ?_
      refine K_callV dX9_writeTrain_77 YX9_train kX9_75 (rc_of mO rfl) (c_X9_tRe (x := x70) mO mS hfit hi) rfl rfl (Nat.le_of_ble_eq_true rfl) (by decide) ?_
      refine K_callVp dX9_writeTrain_80 YX9_writesNumber kX9_196 (rc_of mO rfl) (c_X9_writesNumber hL70 (by have a1 := numL_le i; have a2 := numL_le (sPl (gS G) i); have a3 := numL_le (sRe (gS G) i); simp only [List.length_append, List.length_cons, List.length_nil]; omega) (show sRe (gS G) i < 100 by omega)) rfl rfl (Nat.le_of_ble_eq_true rfl) (by decide) (fun v80 w80 q80 => ?_)
      obtain ⟨rfl, hF80, x80, hL80, hx80⟩ := q80
      have m2 := (hF80.1 _ (by omega)).trans m2
      have m3 := (hF80.1 _ (by omega)).trans m3
      have m4 := (hF80.1 _ (by omega)).trans m4
      have m5 := (hF80.1 _ (by omega)).trans m5
      have m6 := (hF80.1 _ (by omega)).trans m6
      have m7 := (hF80.1 _ (by omega)).trans m7
      have mF := (hF80.1 _ (by omega)).trans mF
      have mK := (hF80.1 _ (by omega)).trans mK
      have mS := (hF80.1 _ (by omega)).trans mS
      have mO := hL80.1
      have hxx := fun j (hj : j ≠ 14) => (hx80 j hj).trans (hxx j hj)
      refine J_aload_n dX9_writeTrain_83 rfl rfl ?_
      refine J_iload_n dX9_writeTrain_84 rfl rfl ?_
      refine K_callV dX9_writeTrain_85 YX9_goalOf kX9_81 (rc_of mO rfl) (c_X9_goalOf (x := x80) mO mS hfit hi) rfl rfl (Nat.le_of_ble_eq_true rfl) (by decide) ?_
      refine J_iconst (v := (-1)) dX9_writeTrain_88 (by decide) ?_
      refine J_icmp_eq (tgt := 107) dX9_writeTrain_89 (by decide) (fun h89 => ?_) (fun h89 => ?_)
      · skip
        have e89 : sGo (gS G) i = none := (oI_m1 (sGo_b hwf hi)).mp h89
        refine J_aload_n dX9_writeTrain_107 rfl rfl ?_
        refine J_iload_n dX9_writeTrain_108 rfl rfl ?_
        refine J_iconst (v := nI 4) dX9_writeTrain_109 (by decide) ?_
        refine K_callV dX9_writeTrain_110 YX9_train kX9_75 (rc_of mO rfl) (c_X9_tOf (x := x80) mO mS hfit hi) rfl rfl (Nat.le_of_ble_eq_true rfl) (by decide) ?_
        refine J_iconst (v := nI 1) dX9_writeTrain_113 (by decide) ?_
        refine J_icmp_ne (tgt := 123) dX9_writeTrain_114 (by decide) (fun h114 => ?_) (fun h114 => ?_)
        · skip
          have e114 : sOf (gS G) i = false := b2i_n1 h114
          refine J_aload_n dX9_writeTrain_123 rfl rfl ?_
          refine J_getfield dX9_writeTrain_124 fX9_190 mO rfl ?_
          have hl : trL (gS G) i = _ := (show trL (gS G) i = ((((([] ++ [84]) ++ numL i) ++ [64]) ++ numL (sPl (gS G) i)) ++ [43]) ++ numL (sRe (gS G) i) from by simp [trL, markL_is, h64, e89, e114])
          rw [← hl] at hL80
          obtain ⟨mO, h14, f8n, m8, ho⟩ := hL80
          have hll := trL_len hwf hi
          exact J_ireturn dX9_writeTrain_127 rfl rfl (GM_of (c := 0) (v := nI (trL (gS G) i).length) (G' := gOut G (trL (gS G) i)) (th := 0) (by unfold gTrn; rw [e6]) (fun _ => h14) (((((((((Fr.rf w m (m + 11)).up u1 (by omega) (by omega)).up u2 (by omega) (by omega)).tr hF34.fr (by omega) (by omega)).tr hF39.fr (by omega) (by omega)).tr hF45.fr (by omega) (by omega)).tr hF55.fr (by omega) (by omega)).tr hF70.fr (by omega) (by omega)).tr hF80.fr (by omega) (by omega)) rfl ⟨x80, f2, f3, f4, f5, f6, f7, f8n, ⟨_, _, _, mO, mS, mF, mK, hfit⟩, ⟨m2, m3, m4, m5, m6, m7, m8⟩, (hxx 0 (by decide)).trans (up_s _ _ _), ⟨(hxx 6 (by decide)).trans ((up_n _ _ (by decide)).trans x6), (hxx 7 (by decide)).trans ((up_n _ _ (by decide)).trans x7), (hxx 13 (by decide)).trans ((up_n _ _ (by decide)).trans x13), h14, (hxx 15 (by decide)).trans ((up_n _ _ (by decide)).trans x15), (hxx 16 (by decide)).trans ((up_n _ _ (by decide)).trans x16)⟩, ⟨hV, hP, hT, ho, ⟨hb8, hb60, by show (trL (gS G) i).length ≤ 14; omega, getD_ch (trL_ch hwf hi)⟩, hE, hF⟩⟩)
        · skip
          have e114 : sOf (gS G) i = true := b2i_1.mp h114
          refine J_aload_n dX9_writeTrain_117 rfl rfl ?_
          refine J_bipush (v := nI 33) dX9_writeTrain_118 (by decide) ?_
          refine K_callVp dX9_writeTrain_120 YX9_writes kX9_193 (rc_of mO rfl) (c_X9_writes hL80 (by have a1 := numL_le i; have a2 := numL_le (sPl (gS G) i); have a3 := numL_le (sRe (gS G) i); simp only [List.length_append, List.length_cons, List.length_nil]; omega) _) rfl rfl (Nat.le_of_ble_eq_true rfl) (by decide) (fun v120 w120 q120 => ?_)
          obtain ⟨rfl, hF120, x120, hL120, hx120⟩ := q120
          have m2 := (hF120.1 _ (by omega)).trans m2
          have m3 := (hF120.1 _ (by omega)).trans m3
          have m4 := (hF120.1 _ (by omega)).trans m4
          have m5 := (hF120.1 _ (by omega)).trans m5
          have m6 := (hF120.1 _ (by omega)).trans m6
          have m7 := (hF120.1 _ (by omega)).trans m7
          have mF := (hF120.1 _ (by omega)).trans mF
          have mK := (hF120.1 _ (by omega)).trans mK
          have mS := (hF120.1 _ (by omega)).trans mS
          have mO := hL120.1
          have hxx := fun j (hj : j ≠ 14) => (hx120 j hj).trans (hxx j hj)
          refine J_aload_n dX9_writeTrain_123 rfl rfl ?_
          refine J_getfield dX9_writeTrain_124 fX9_190 mO rfl ?_
          have hl : trL (gS G) i = _ := (show trL (gS G) i = (((((([] ++ [84]) ++ numL i) ++ [64]) ++ numL (sPl (gS G) i)) ++ [43]) ++ numL (sRe (gS G) i)) ++ [33] from by simp [trL, markL_is, h64, e89, e114])
          rw [← hl] at hL120
          obtain ⟨mO, h14, f8n, m8, ho⟩ := hL120
          have hll := trL_len hwf hi
          exact J_ireturn dX9_writeTrain_127 rfl rfl (GM_of (c := 0) (v := nI (trL (gS G) i).length) (G' := gOut G (trL (gS G) i)) (th := 0) (by unfold gTrn; rw [e6]) (fun _ => h14) ((((((((((Fr.rf w m (m + 11)).up u1 (by omega) (by omega)).up u2 (by omega) (by omega)).tr hF34.fr (by omega) (by omega)).tr hF39.fr (by omega) (by omega)).tr hF45.fr (by omega) (by omega)).tr hF55.fr (by omega) (by omega)).tr hF70.fr (by omega) (by omega)).tr hF80.fr (by omega) (by omega)).tr hF120.fr (by omega) (by omega)) rfl ⟨x120, f2, f3, f4, f5, f6, f7, f8n, ⟨_, _, _, mO, mS, mF, mK, hfit⟩, ⟨m2, m3, m4, m5, m6, m7, m8⟩, (hxx 0 (by decide)).trans (up_s _ _ _), ⟨(hxx 6 (by decide)).trans ((up_n _ _ (by decide)).trans x6), (hxx 7 (by decide)).trans ((up_n _ _ (by decide)).trans x7), (hxx 13 (by decide)).trans ((up_n _ _ (by decide)).trans x13), h14, (hxx 15 (by decide)).trans ((up_n _ _ (by decide)).trans x15), (hxx 16 (by decide)).trans ((up_n _ _ (by decide)).trans x16)⟩, ⟨hV, hP, hT, ho, ⟨hb8, hb60, by show (trL (gS G) i).length ≤ 14; omega, getD_ch (trL_ch hwf hi)⟩, hE, hF⟩⟩)
      · skip
        obtain ⟨kg, e89⟩ : ∃ k_, sGo (gS G) i = some k_ := by
          cases q : sGo (gS G) i with
          | none => exact absurd ((oI_m1 (sGo_b hwf hi)).mpr q) h89
          | some k_ => exact ⟨k_, rfl⟩
        have hgb := hwf.2.2.2.2.2.1 i hi kg e89
        refine J_aload_n dX9_writeTrain_92 rfl rfl ?_
        refine J_bipush (v := nI 62) dX9_writeTrain_93 (by decide) ?_
        refine K_callVp dX9_writeTrain_95 YX9_writes kX9_193 (rc_of mO rfl) (c_X9_writes hL80 (by have a1 := numL_le i; have a2 := numL_le (sPl (gS G) i); have a3 := numL_le (sRe (gS G) i); have a4 := numL_le kg; simp only [List.length_append, List.length_cons, List.length_nil]; omega) _) rfl rfl (Nat.le_of_ble_eq_true rfl) (by decide) (fun v95 w95 q95 => ?_)
        obtain ⟨rfl, hF95, x95, hL95, hx95⟩ := q95
        have m2 := (hF95.1 _ (by omega)).trans m2
        have m3 := (hF95.1 _ (by omega)).trans m3
        have m4 := (hF95.1 _ (by omega)).trans m4
        have m5 := (hF95.1 _ (by omega)).trans m5
        have m6 := (hF95.1 _ (by omega)).trans m6
        have m7 := (hF95.1 _ (by omega)).trans m7
        have mF := (hF95.1 _ (by omega)).trans mF
        have mK := (hF95.1 _ (by omega)).trans mK
        have mS := (hF95.1 _ (by omega)).trans mS
        have mO := hL95.1
        have hxx := fun j (hj : j ≠ 14) => (hx95 j hj).trans (hxx j hj)
        refine J_aload_n dX9_writeTrain_98 rfl rfl ?_
        refine J_aload_n dX9_writeTrain_99 rfl rfl ?_
        refine J_iload_n dX9_writeTrain_100 rfl rfl ?_
        refine K_callV dX9_writeTrain_101 YX9_goalOf kX9_81 (rc_of mO rfl) (c_X9_goalOf (x := x95) mO mS hfit hi) rfl rfl (Nat.le_of_ble_eq_true rfl) (by decide) ?_
        rw [e89, oI_s]
        refine K_callVp dX9_writeTrain_104 YX9_writesNumber kX9_196 (rc_of mO rfl) (c_X9_writesNumber hL95 (by have a1 := numL_le i; have a2 := numL_le (sPl (gS G) i); have a3 := numL_le (sRe (gS G) i); have a4 := numL_le kg; simp only [List.length_append, List.length_cons, List.length_nil]; omega) (show kg < 100 by omega)) rfl rfl (Nat.le_of_ble_eq_true rfl) (by decide) (fun v104 w104 q104 => ?_)
        obtain ⟨rfl, hF104, x104, hL104, hx104⟩ := q104
        have m2 := (hF104.1 _ (by omega)).trans m2
        have m3 := (hF104.1 _ (by omega)).trans m3
        have m4 := (hF104.1 _ (by omega)).trans m4
        have m5 := (hF104.1 _ (by omega)).trans m5
        have m6 := (hF104.1 _ (by omega)).trans m6
        have m7 := (hF104.1 _ (by omega)).trans m7
        have mF := (hF104.1 _ (by omega)).trans mF
        have mK := (hF104.1 _ (by omega)).trans mK
        have mS := (hF104.1 _ (by omega)).trans mS
        have mO := hL104.1
        have hxx := fun j (hj : j ≠ 14) => (hx104 j hj).trans (hxx j hj)
        refine J_aload_n dX9_writeTrain_107 rfl rfl ?_
        refine J_iload_n dX9_writeTrain_108 rfl rfl ?_
        refine J_iconst (v := nI 4) dX9_writeTrain_109 (by decide) ?_
        refine K_callV dX9_writeTrain_110 YX9_train kX9_75 (rc_of mO rfl) (c_X9_tOf (x := x104) mO mS hfit hi) rfl rfl (Nat.le_of_ble_eq_true rfl) (by decide) ?_
        refine J_iconst (v := nI 1) dX9_writeTrain_113 (by decide) ?_
        refine J_icmp_ne (tgt := 123) dX9_writeTrain_114 (by decide) (fun h114 => ?_) (fun h114 => ?_)
        · skip
          have e114 : sOf (gS G) i = false := b2i_n1 h114
          refine J_aload_n dX9_writeTrain_123 rfl rfl ?_
          refine J_getfield dX9_writeTrain_124 fX9_190 mO rfl ?_
          have hl : trL (gS G) i = _ := (show trL (gS G) i = ((((((([] ++ [84]) ++ numL i) ++ [64]) ++ numL (sPl (gS G) i)) ++ [43]) ++ numL (sRe (gS G) i)) ++ [62]) ++ numL kg from by simp [trL, markL_is, h64, e89, e114])
          rw [← hl] at hL104
          obtain ⟨mO, h14, f8n, m8, ho⟩ := hL104
          have hll := trL_len hwf hi
          exact J_ireturn dX9_writeTrain_127 rfl rfl (GM_of (c := 0) (v := nI (trL (gS G) i).length) (G' := gOut G (trL (gS G) i)) (th := 0) (by unfold gTrn; rw [e6]) (fun _ => h14) (((((((((((Fr.rf w m (m + 11)).up u1 (by omega) (by omega)).up u2 (by omega) (by omega)).tr hF34.fr (by omega) (by omega)).tr hF39.fr (by omega) (by omega)).tr hF45.fr (by omega) (by omega)).tr hF55.fr (by omega) (by omega)).tr hF70.fr (by omega) (by omega)).tr hF80.fr (by omega) (by omega)).tr hF95.fr (by omega) (by omega)).tr hF104.fr (by omega) (by omega)) rfl ⟨x104, f2, f3, f4, f5, f6, f7, f8n, ⟨_, _, _, mO, mS, mF, mK, hfit⟩, ⟨m2, m3, m4, m5, m6, m7, m8⟩, (hxx 0 (by decide)).trans (up_s _ _ _), ⟨(hxx 6 (by decide)).trans ((up_n _ _ (by decide)).trans x6), (hxx 7 (by decide)).trans ((up_n _ _ (by decide)).trans x7), (hxx 13 (by decide)).trans ((up_n _ _ (by decide)).trans x13), h14, (hxx 15 (by decide)).trans ((up_n _ _ (by decide)).trans x15), (hxx 16 (by decide)).trans ((up_n _ _ (by decide)).trans x16)⟩, ⟨hV, hP, hT, ho, ⟨hb8, hb60, by show (trL (gS G) i).length ≤ 14; omega, getD_ch (trL_ch hwf hi)⟩, hE, hF⟩⟩)
        · skip
          have e114 : sOf (gS G) i = true := b2i_1.mp h114
          refine J_aload_n dX9_writeTrain_117 rfl rfl ?_
          refine J_bipush (v := nI 33) dX9_writeTrain_118 (by decide) ?_
          refine K_callVp dX9_writeTrain_120 YX9_writes kX9_193 (rc_of mO rfl) (c_X9_writes hL104 (by have a1 := numL_le i; have a2 := numL_le (sPl (gS G) i); have a3 := numL_le (sRe (gS G) i); have a4 := numL_le kg; simp only [List.length_append, List.length_cons, List.length_nil]; omega) _) rfl rfl (Nat.le_of_ble_eq_true rfl) (by decide) (fun v120 w120 q120 => ?_)
          obtain ⟨rfl, hF120, x120, hL120, hx120⟩ := q120
          have m2 := (hF120.1 _ (by omega)).trans m2
          have m3 := (hF120.1 _ (by omega)).trans m3
          have m4 := (hF120.1 _ (by omega)).trans m4
          have m5 := (hF120.1 _ (by omega)).trans m5
          have m6 := (hF120.1 _ (by omega)).trans m6
          have m7 := (hF120.1 _ (by omega)).trans m7
          have mF := (hF120.1 _ (by omega)).trans mF
          have mK := (hF120.1 _ (by omega)).trans mK
          have mS := (hF120.1 _ (by omega)).trans mS
          have mO := hL120.1
          have hxx := fun j (hj : j ≠ 14) => (hx120 j hj).trans (hxx j hj)
          refine J_aload_n dX9_writeTrain_123 rfl rfl ?_
          refine J_getfield dX9_writeTrain_124 fX9_190 mO rfl ?_
          have hl : trL (gS G) i = _ := (show trL (gS G) i = (((((((([] ++ [84]) ++ numL i) ++ [64]) ++ numL (sPl (gS G) i)) ++ [43]) ++ numL (sRe (gS G) i)) ++ [62]) ++ numL kg) ++ [33] from by simp [trL, markL_is, h64, e89, e114])
          rw [← hl] at hL120
          obtain ⟨mO, h14, f8n, m8, ho⟩ := hL120
          have hll := trL_len hwf hi
          exact J_ireturn dX9_writeTrain_127 rfl rfl (GM_of (c := 0) (v := nI (trL (gS G) i).length) (G' := gOut G (trL (gS G) i)) (th := 0) (by unfold gTrn; rw [e6]) (fun _ => h14) ((((((((((((Fr.rf w m (m + 11)).up u1 (by omega) (by omega)).up u2 (by omega) (by omega)).tr hF34.fr (by omega) (by omega)).tr hF39.fr (by omega) (by omega)).tr hF45.fr (by omega) (by omega)).tr hF55.fr (by omega) (by omega)).tr hF70.fr (by omega) (by omega)).tr hF80.fr (by omega) (by omega)).tr hF95.fr (by omega) (by omega)).tr hF104.fr (by omega) (by omega)).tr hF120.fr (by omega) (by omega)) rfl ⟨x120, f2, f3, f4, f5, f6, f7, f8n, ⟨_, _, _, mO, mS, mF, mK, hfit⟩, ⟨m2, m3, m4, m5, m6, m7, m8⟩, (hxx 0 (by decide)).trans (up_s _ _ _), ⟨(hxx 6 (by decide)).trans ((up_n _ _ (by decide)).trans x6), (hxx 7 (by decide)).trans ((up_n _ _ (by decide)).trans x7), (hxx 13 (by decide)).trans ((up_n _ _ (by decide)).trans x13), h14, (hxx 15 (by decide)).trans ((up_n _ _ (by decide)).trans x15), (hxx 16 (by decide)).trans ((up_n _ _ (by decide)).trans x16)⟩, ⟨hV, hP, hT, ho, ⟨hb8, hb60, by show (trL (gS G) i).length ≤ 14; omega, getD_ch (trL_ch hwf hi)⟩, hE, hF⟩⟩)

theorem c_X9_writeSignals {w : Wd} {m : Nat} {G : Gme} {th : Nat} (hM : RepM w m G th)  : MC 5 mX9_writeSignals 0 0 [.ref m] w (GM w m [] (gSig G)) := by
  obtain ⟨x, f2, f3, f4, f5, f6, f7, f8, hA, ⟨m2, m3, m4, m5, m6, m7, m8⟩, hx0, hRx, hRd⟩ := id hM
  obtain ⟨x6, x7, x13, x14, x15, x16⟩ := id hRx
  obtain ⟨hV, hP, hT, hO, ⟨hb8, hb60, hb14⟩, hE, hF⟩ := id hRd
  obtain ⟨f, g, h, mO, mS, mF, mK, hfit⟩ := id hA
  have hwf := hfit.2.2.2.2
  have hnb := hwf.nb
  have hnt := hwf.nt
  refine MC_j pnX9 rfl rfl rfl (Or.inr (fun E w h => RP_no E w h)) ?_
  show J 5 mX9_writeSignals 0 [some (.ref m), none] [] w 0 0 _
  have loop : ∀ n k xk w1, sNb (gS G) < n + k → k ≤ sNb (gS G) → OuL w1 m xk ((List.range k).map (sgn (gS G))) → (∀ j, j ≠ 14 → xk j = (va_up x 0 (nI 0)) j) → w1.1 (m + 1) = .inl (0, 116, .inl f) → w1.1 (m + 2) = .inl (0, 116, .inl f2) → w1.1 (m + 3) = .inl (0, 116, .inl f3) → w1.1 (m + 4) = .inl (0, 928, .inl f4) → w1.1 (m + 5) = .inl (0, 116, .inl f5) → w1.1 (m + 6) = .inl (0, 60, .inl f6) → w1.1 (m + 7) = .inl (0, 180, .inl f7) → w1.1 (m + 9) = .inl (0, 14, .inl g) → w1.1 (m + 10) = .inl (0, 14, .inl h) → Fr w w1 m (m + 11) → J 5 mX9_writeSignals 12 [some (.ref m), some (.int (nI k))] [] w1 0 0 (GM w m [] (gSig G)) := by
    intro n
    induction n with
    | zero => intros; omega
    | succ n ih =>
      intro k xk w1 q1 q2 hL hxx mS m2 m3 m4 m5 m6 m7 mF mK hFr
      have mO := hL.1
      refine J_iload_n dX9_writeSignals_12 rfl rfl ?_
      refine J_aload_n dX9_writeSignals_13 rfl rfl ?_
      refine J_getfield dX9_writeSignals_14 fX9_7 mO rfl ?_
      refine J_iconst (v := nI 0) dX9_writeSignals_17 (by decide) ?_
      refine K_iald (v := nI (sNb (gS G))) dX9_writeSignals_18 mS (by omega) (by decide) hfit.1.1 ?_
      refine J_icmp_ge (tgt := 37) dX9_writeSignals_19 (by decide) (fun h19 => ?_) (fun h19 => ?_)
      · skip
        have h19 := (nI_leI (by omega) (by omega)).mp h19
        have ek : k = sNb (gS G) := by omega
        subst ek
        refine J_aload_n dX9_writeSignals_37 rfl rfl ?_
        refine J_getfield dX9_writeSignals_38 fX9_190 mO rfl ?_
        obtain ⟨mO, h14, f8n, m8, ho⟩ := hL
        have hll := siL_len (gS G)
        exact J_ireturn dX9_writeSignals_41 rfl rfl (GM_of (c := 0) (v := nI (siL (gS G)).length) (G' := gOut G (siL (gS G))) (th := 0) rfl (fun _ => h14) hFr rfl ⟨xk, f2, f3, f4, f5, f6, f7, f8n, ⟨_, _, _, mO, mS, mF, mK, hfit⟩, ⟨m2, m3, m4, m5, m6, m7, m8⟩, (hxx 0 (by decide)).trans (up_s _ _ _), ⟨(hxx 6 (by decide)).trans ((up_n _ _ (by decide)).trans x6), (hxx 7 (by decide)).trans ((up_n _ _ (by decide)).trans x7), (hxx 13 (by decide)).trans ((up_n _ _ (by decide)).trans x13), h14, (hxx 15 (by decide)).trans ((up_n _ _ (by decide)).trans x15), (hxx 16 (by decide)).trans ((up_n _ _ (by decide)).trans x16)⟩, ⟨hV, hP, hT, ho, ⟨hb8, hb60, by show (siL (gS G)).length ≤ 14; omega, getD_ch (siL_ch _)⟩, hE, hF⟩⟩)
      · skip
        have h19 := mt (nI_leI (by omega) (by omega)).mpr h19
        refine J_aload_n dX9_writeSignals_22 rfl rfl ?_
        refine J_aload_n dX9_writeSignals_23 rfl rfl ?_
        refine J_iload_n dX9_writeSignals_24 rfl rfl ?_
        refine K_callV dX9_writeSignals_25 YX9_sign kX9_151 (rc_of mO rfl) (c_X9_sign (x := xk) mO mS hfit (show k < sNb (gS G) by omega)) rfl rfl (Nat.le_of_ble_eq_true rfl) (by decide) ?_
        refine K_callVp dX9_writeSignals_28 YX9_writes kX9_193 (rc_of mO rfl) (c_X9_writes hL (by rw [List.length_map, List.length_range]; omega) _) rfl rfl (Nat.le_of_ble_eq_true rfl) (by decide) (fun v28 w28 q28 => ?_)
        obtain ⟨rfl, hF28, x28, hL28, hx28⟩ := q28
        have m2 := (hF28.1 _ (by omega)).trans m2
        have m3 := (hF28.1 _ (by omega)).trans m3
        have m4 := (hF28.1 _ (by omega)).trans m4
        have m5 := (hF28.1 _ (by omega)).trans m5
        have m6 := (hF28.1 _ (by omega)).trans m6
        have m7 := (hF28.1 _ (by omega)).trans m7
        have mF := (hF28.1 _ (by omega)).trans mF
        have mK := (hF28.1 _ (by omega)).trans mK
        have mS := (hF28.1 _ (by omega)).trans mS
        have mO := hL28.1
        have hFr := hFr.tr hF28.fr (by omega) (by omega)
        refine J_iinc (v := nI (k + 1)) dX9_writeSignals_31 rfl (nI_succ _).symm (by decide) rfl ?_
        refine J_goto (tgt := 12) dX9_writeSignals_34 (by decide) ?_
        rw [show (List.range k).map (sgn (gS G)) ++ [sgn (gS G) k] = (List.range (k + 1)).map (sgn (gS G)) from by rw [List.range_succ, List.map_append]; rfl] at hL28
        exact ih (k + 1) x28 _ (by omega) (by omega) hL28 (fun j hj => (hx28 j hj).trans (hxx j hj)) mS m2 m3 m4 m5 m6 m7 mF mK hFr
  refine J_aload_n dX9_writeSignals_0 rfl rfl ?_
  refine J_iconst (v := nI 0) dX9_writeSignals_1 (by decide) ?_
  refine K_putI dX9_writeSignals_2 fX9_47 (Or.inl rfl) mO (Nat.le_of_ble_eq_true rfl) (fun w1 u1 => ?_)
  have m2 := (u1.2.1 _ (by omega)).trans m2
  have m3 := (u1.2.1 _ (by omega)).trans m3
  have m4 := (u1.2.1 _ (by omega)).trans m4
  have m5 := (u1.2.1 _ (by omega)).trans m5
  have m6 := (u1.2.1 _ (by omega)).trans m6
  have m7 := (u1.2.1 _ (by omega)).trans m7
  have m8 := (u1.2.1 _ (by omega)).trans m8
  have mF := (u1.2.1 _ (by omega)).trans mF
  have mK := (u1.2.1 _ (by omega)).trans mK
  have mO := u1.1
  have mS := (u1.2.1 _ (by omega)).trans mS
  have mO : w1.1 m = .inr (9, [.int (nI 0), .ref (m + 1), .ref (m + 2), .ref (m + 3), .ref (m + 4), .ref (m + 5), .int (x 6), .int (x 7), .ref (m + 6), .ref (m + 7), .ref (m + 8), .ref (m + 9), .ref (m + 10), .int (x 13), .int (x 14), .int (x 15), .int (x 16), .int (x 17), .int (x 18), .int (x 19), .int (x 20), .int (x 21)]) := mO
  refine J_aload_n dX9_writeSignals_5 rfl rfl ?_
  refine J_iconst (v := nI 0) dX9_writeSignals_6 (by decide) ?_
  refine K_putI dX9_writeSignals_7 fX9_190 (Or.inl rfl) mO (Nat.le_of_ble_eq_true rfl) (fun w2 u2 => ?_)
  have m2 := (u2.2.1 _ (by omega)).trans m2
  have m3 := (u2.2.1 _ (by omega)).trans m3
  have m4 := (u2.2.1 _ (by omega)).trans m4
  have m5 := (u2.2.1 _ (by omega)).trans m5
  have m6 := (u2.2.1 _ (by omega)).trans m6
  have m7 := (u2.2.1 _ (by omega)).trans m7
  have m8 := (u2.2.1 _ (by omega)).trans m8
  have mF := (u2.2.1 _ (by omega)).trans mF
  have mK := (u2.2.1 _ (by omega)).trans mK
  have mO := u2.1
  have mS := (u2.2.1 _ (by omega)).trans mS
  have mO : w2.1 m = .inr (9, [.int (nI 0), .ref (m + 1), .ref (m + 2), .ref (m + 3), .ref (m + 4), .ref (m + 5), .int (x 6), .int (x 7), .ref (m + 6), .ref (m + 7), .ref (m + 8), .ref (m + 9), .ref (m + 10), .int (x 13), .int (nI 0), .int (x 15), .int (x 16), .int (x 17), .int (x 18), .int (x 19), .int (x 20), .int (x 21)]) := mO
  refine J_iconst (v := nI 0) dX9_writeSignals_10 (by decide) ?_
  refine J_istore_n dX9_writeSignals_11 rfl (by decide) rfl ?_
  exact loop (sNb (gS G) + 1) 0 (va_up (va_up x 0 (nI 0)) 14 (nI 0)) _ (by omega) (by omega) ⟨mO, rfl, f8, m8, fun j hj => absurd hj (Nat.not_lt_zero j)⟩ (fun j hj => up_n _ _ hj) mS m2 m3 m4 m5 m6 m7 mF mK (((Fr.rf w m (m + 11)).up u1 (by omega) (by omega)).up u2 (by omega) (by omega))

theorem c_X9_outputCharacter {w : Wd} {m : Nat} {G : Gme} {th : Nat} (hM : RepM w m G th) (y : Int32) : MC 3 mX9_outputCharacter 0 0 [.ref m, .int y] w (GM w m [1] (gQ G (gChr G y))) := by
  obtain ⟨x, f2, f3, f4, f5, f6, f7, f8, hA, ⟨m2, m3, m4, m5, m6, m7, m8⟩, hx0, hRx, hRd⟩ := id hM
  obtain ⟨x6, x7, x13, x14, x15, x16⟩ := id hRx
  obtain ⟨hV, hP, hT, hO, ⟨hb8, hb60, hb14⟩, hE, hF⟩ := id hRd
  obtain ⟨f, g, h, mO, mS, mF, mK, hfit⟩ := id hA
  have hwf := hfit.2.2.2.2
  have hnb := hwf.nb
  have hnt := hwf.nt
  have hb14a := hb14.1
  refine MC_j pnX9 rfl rfl rfl (Or.inr (fun E w h => RP_no E w h)) ?_
  show J 3 mX9_outputCharacter 0 [some (.ref m), some (.int y)] [] w 0 0 _
  refine J_aload_n dX9_outputCharacter_0 rfl rfl ?_
  refine J_iload_n dX9_outputCharacter_1 rfl rfl ?_
  refine J_iconst (v := nI 0) dX9_outputCharacter_2 (by decide) ?_
  refine J_aload_n dX9_outputCharacter_3 rfl rfl ?_
  refine J_getfield dX9_outputCharacter_4 fX9_190 mO rfl ?_
  rw [x14]
  refine J_iconst (v := nI 1) dX9_outputCharacter_7 (by decide) ?_
  refine K_isub (v := nI (gO G).length - nI 1) dX9_outputCharacter_8 rfl ?_
  refine K_callS dX9_outputCharacter_9 YX9_in kX9_63 (c_X9_inV (by omega) y) rfl rfl (Nat.le_of_ble_eq_true rfl) (by decide) ?_
  refine J_if_eq (tgt := 19) dX9_outputCharacter_12 (by decide) (fun h12 => ?_) (fun h12 => ?_)
  · skip
    have e12 : (vi (gO G).length y).isSome = false := b2i_eq.mp h12
    have e12 := isS_no e12
    refine J_iconst (v := nI 1) dX9_outputCharacter_19 (by decide) ?_
    refine K_putI dX9_outputCharacter_20 fX9_47 (Or.inl rfl) mO (Nat.le_of_ble_eq_true rfl) (fun w1 u1 => ?_)
    have m2 := (u1.2.1 _ (by omega)).trans m2
    have m3 := (u1.2.1 _ (by omega)).trans m3
    have m4 := (u1.2.1 _ (by omega)).trans m4
    have m5 := (u1.2.1 _ (by omega)).trans m5
    have m6 := (u1.2.1 _ (by omega)).trans m6
    have m7 := (u1.2.1 _ (by omega)).trans m7
    have m8 := (u1.2.1 _ (by omega)).trans m8
    have mF := (u1.2.1 _ (by omega)).trans mF
    have mK := (u1.2.1 _ (by omega)).trans mK
    have mO := u1.1
    have mS := (u1.2.1 _ (by omega)).trans mS
    have mO : w1.1 m = .inr (9, [.int (nI 1), .ref (m + 1), .ref (m + 2), .ref (m + 3), .ref (m + 4), .ref (m + 5), .int (x 6), .int (x 7), .ref (m + 6), .ref (m + 7), .ref (m + 8), .ref (m + 9), .ref (m + 10), .int (x 13), .int (x 14), .int (x 15), .int (x 16), .int (x 17), .int (x 18), .int (x 19), .int (x 20), .int (x 21)]) := mO
    refine J_aload_n dX9_outputCharacter_23 rfl rfl ?_
    refine J_getfield dX9_outputCharacter_24 fX9_47 mO rfl ?_
    refine J_if_le (tgt := 34) dX9_outputCharacter_27 (by decide) (fun h27 => absurd h27 (by decide)) (fun h27 => ?_)
    refine J_iconst (v := nI 0) dX9_outputCharacter_30 (by decide) ?_
    refine J_goto (tgt := 41) dX9_outputCharacter_31 (by decide) ?_
    exact J_ireturn dX9_outputCharacter_41 rfl rfl (GM_of (c := 1) (v := 0) (G' := G) (th := 1) (gQ_eq (onI_no e12)) (fun z => absurd z (by decide)) ((Fr.rf w m (m + 11)).up u1 (by omega) (by omega)) (by decide) ⟨va_up x 0 (nI 1), _, _, _, _, _, _, _, ⟨_, _, _, mO, mS, mF, mK, hfit⟩, ⟨m2, m3, m4, m5, m6, m7, m8⟩, (up_s _ _ _), ⟨((up_n _ _ (by decide)).trans x6), ((up_n _ _ (by decide)).trans x7), ((up_n _ _ (by decide)).trans x13), ((up_n _ _ (by decide)).trans x14), ((up_n _ _ (by decide)).trans x15), ((up_n _ _ (by decide)).trans x16)⟩, hRd⟩)
  · skip
    have e12 : (vi (gO G).length y).isSome = true := b2i_ne.mp h12
    obtain ⟨i, e12⟩ := isS_yes e12
    obtain ⟨hi, rfl⟩ := vi_some (by omega) e12
    refine J_iconst (v := nI 0) dX9_outputCharacter_15 (by decide) ?_
    refine J_goto (tgt := 20) dX9_outputCharacter_16 (by decide) ?_
    refine K_putI dX9_outputCharacter_20 fX9_47 (Or.inl rfl) mO (Nat.le_of_ble_eq_true rfl) (fun w1 u1 => ?_)
    have m2 := (u1.2.1 _ (by omega)).trans m2
    have m3 := (u1.2.1 _ (by omega)).trans m3
    have m4 := (u1.2.1 _ (by omega)).trans m4
    have m5 := (u1.2.1 _ (by omega)).trans m5
    have m6 := (u1.2.1 _ (by omega)).trans m6
    have m7 := (u1.2.1 _ (by omega)).trans m7
    have m8 := (u1.2.1 _ (by omega)).trans m8
    have mF := (u1.2.1 _ (by omega)).trans mF
    have mK := (u1.2.1 _ (by omega)).trans mK
    have mO := u1.1
    have mS := (u1.2.1 _ (by omega)).trans mS
    have mO : w1.1 m = .inr (9, [.int (nI 0), .ref (m + 1), .ref (m + 2), .ref (m + 3), .ref (m + 4), .ref (m + 5), .int (x 6), .int (x 7), .ref (m + 6), .ref (m + 7), .ref (m + 8), .ref (m + 9), .ref (m + 10), .int (x 13), .int (x 14), .int (x 15), .int (x 16), .int (x 17), .int (x 18), .int (x 19), .int (x 20), .int (x 21)]) := mO
    refine J_aload_n dX9_outputCharacter_23 rfl rfl ?_
    refine J_getfield dX9_outputCharacter_24 fX9_47 mO rfl ?_
    refine J_if_le (tgt := 34) dX9_outputCharacter_27 (by decide) (fun h27 => ?_) (fun h27 => absurd h27 (by decide))
    refine J_aload_n dX9_outputCharacter_34 rfl rfl ?_
    refine J_getfield dX9_outputCharacter_35 fX9_31 mO rfl ?_
    refine J_iload_n dX9_outputCharacter_38 rfl rfl ?_
    refine K_iald (v := nI ((gO G).getD i 0)) dX9_outputCharacter_39 m8 (by omega) (by decide) (hO i hi) ?_
    refine J_i2c (v := nI ((gO G).getD i 0)) dX9_outputCharacter_40 (i2c_n _ (hb14.2 i hi)) ?_
    exact J_ireturn dX9_outputCharacter_41 rfl (narC _ (hb14.2 i hi)) (GM_of (c := 0) (v := nI ((gO G).getD i 0)) (G' := G) (th := 0) (gQ_eq (onI_ok e12)) (fun _ => rfl) ((Fr.rf w m (m + 11)).up u1 (by omega) (by omega)) (by decide) ⟨va_up x 0 (nI 0), _, _, _, _, _, _, _, ⟨_, _, _, mO, mS, mF, mK, hfit⟩, ⟨m2, m3, m4, m5, m6, m7, m8⟩, (up_s _ _ _), ⟨((up_n _ _ (by decide)).trans x6), ((up_n _ _ (by decide)).trans x7), ((up_n _ _ (by decide)).trans x13), ((up_n _ _ (by decide)).trans x14), ((up_n _ _ (by decide)).trans x15), ((up_n _ _ (by decide)).trans x16)⟩, hRd⟩)

end JMIO

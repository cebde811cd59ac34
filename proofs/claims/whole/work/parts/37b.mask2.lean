/-! THE MODEL: its questions, more -/
section JMASK2
theorem c_X9_nearestCushion {w : Wd} {m : Nat} {G : Gme} {th : Nat} (hM : RepM w m G th) (y : Int32) : MC 4 mX9_nearestCushion 0 0 [.ref m, .int y] w (GM w m [1, 5] (gQ G (onI (sNb (gS G)) y (fun i => opA (nrC (gS G) i))))) := by
  obtain ⟨x, f2, f3, f4, f5, f6, f7, f8, hA, ⟨m2, m3, m4, m5, m6, m7, m8⟩, hx0, hRx, hRd⟩ := id hM
  obtain ⟨x6, x7, x13, x14, x15, x16⟩ := id hRx
  obtain ⟨hV, hP, hT, hO, ⟨hb8, hb60, hb14⟩, hE, hF⟩ := id hRd
  obtain ⟨f, g, h, mO, mS, mF, mK, hfit⟩ := id hA
  have hwf := hfit.2.2.2.2
  have hnb := hwf.nb
  have hnt := hwf.nt
  refine MC_j pnX9 rfl rfl rfl (Or.inr (fun E w h => RP_no E w h)) ?_
  show J 4 mX9_nearestCushion 0 [some (.ref m), some (.int y), none, none, none] [] w 0 0 _
  have loop : ∀ i, i < sNb (gS G) → vi (sNb (gS G)) (nI i) = some i → ∀ n k g1 w1, sNb (gS G) < n + k → k ≤ sNb (gS G) → w1.1 m = mCell m (va_up x 0 (nI 0)) → w1.1 (m + 1) = .inl (0, 116, .inl f) → w1.1 (m + 2) = .inl (0, 116, .inl f2) → w1.1 (m + 3) = .inl (0, 116, .inl f3) → w1.1 (m + 4) = .inl (0, 928, .inl f4) → w1.1 (m + 5) = .inl (0, 116, .inl f5) → w1.1 (m + 6) = .inl (0, 60, .inl f6) → w1.1 (m + 7) = .inl (0, 180, .inl f7) → w1.1 (m + 8) = .inl (0, 40, .inl f8) → w1.1 (m + 9) = .inl (0, 14, .inl g1) → w1.1 (m + 10) = .inl (0, 14, .inl h) → Fr w w1 m (m + 11) → J 4 mX9_nearestCushion 35 [some (.ref m), some (.int (nI i)), some (.int (oI (amI (am k (cuq (gS G) i))))), some (.int (nI (amV 9999 (am k (cuq (gS G) i))))), some (.int (nI k))] [] w1 0 0 (GM w m [1, 5] (gQ G (onI (sNb (gS G)) (nI i) (fun i => opA (nrC (gS G) i))))) := by
    intro i hi e6 n
    induction n with
    | zero => intros; omega
    | succ n ih =>
      intro k g1 w1 q1 q2 mO mS m2 m3 m4 m5 m6 m7 m8 mF mK hFr
      have mO : w1.1 m = .inr (9, [.int (nI 0), .ref (m + 1), .ref (m + 2), .ref (m + 3), .ref (m + 4), .ref (m + 5), .int (x 6), .int (x 7), .ref (m + 6), .ref (m + 7), .ref (m + 8), .ref (m + 9), .ref (m + 10), .int (x 13), .int (x 14), .int (x 15), .int (x 16), .int (x 17), .int (x 18), .int (x 19), .int (x 20), .int (x 21)]) := mO
      refine J_iload dX9_nearestCushion_35 rfl ?_
      refine J_aload_n dX9_nearestCushion_37 rfl rfl ?_
      refine J_getfield dX9_nearestCushion_38 fX9_7 mO rfl ?_
      refine J_iconst (v := nI 0) dX9_nearestCushion_41 (by decide) ?_
      refine K_iald (v := nI (sNb (gS G))) dX9_nearestCushion_42 mS (by omega) (by decide) hfit.1.1 ?_
      refine J_icmp_ge (tgt := 94) dX9_nearestCushion_43 (by decide) (fun h43 => ?_) (fun h43 => ?_)
      · skip
        have h43 := (nI_leI (by omega) (by omega)).mp h43
        have ek : k = sNb (gS G) := by omega
        subst ek
        refine J_iload_n dX9_nearestCushion_94 rfl rfl ?_
        refine J_iconst (v := (-1)) dX9_nearestCushion_95 (by decide) ?_
        refine J_icmp_ne (tgt := 107) dX9_nearestCushion_96 (by decide) (fun h96 => ?_) (fun h96 => ?_)
        · skip
          obtain ⟨k96, e96⟩ : ∃ k_, amI (am (sNb (gS G)) (cuq (gS G) i)) = some k_ := by
            cases q : amI (am (sNb (gS G)) (cuq (gS G) i)) with
            | none => exact absurd ((oI_m1 (fun k hk => by have := amI_b k hk; omega)).mpr q) h96
            | some k_ => exact ⟨k_, rfl⟩
          refine J_iload_n dX9_nearestCushion_107 rfl rfl ?_
          exact J_ireturn dX9_nearestCushion_108 rfl rfl (GM_of (c := 0) (v := nI k96) (G' := G) (th := 0) (gQ_eq ((onI_ok e6).trans (opA_ok (show nrC (gS G) i = some k96 from e96)))) (fun _ => by rw [e96]; rfl) hFr (by decide) ⟨va_up x 0 (nI 0), _, _, _, _, _, _, _, ⟨_, _, _, mO, mS, mF, mK, hfit⟩, ⟨m2, m3, m4, m5, m6, m7, m8⟩, (up_s _ _ _), ⟨((up_n _ _ (by decide)).trans x6), ((up_n _ _ (by decide)).trans x7), ((up_n _ _ (by decide)).trans x13), ((up_n _ _ (by decide)).trans x14), ((up_n _ _ (by decide)).trans x15), ((up_n _ _ (by decide)).trans x16)⟩, hRd⟩)
        · skip
          have e96 : amI (am (sNb (gS G)) (cuq (gS G) i)) = none := (oI_m1 (fun k hk => by have := amI_b k hk; omega)).mp h96
          refine J_aload_n dX9_nearestCushion_99 rfl rfl ?_
          refine J_iconst (v := nI 2) dX9_nearestCushion_100 (by decide) ?_
          refine K_callVp dX9_nearestCushion_101 YX9_fails kX9_60 (rc_of mO rfl) (c_X9_fails (x := va_up x 0 (nI 0)) mO _) rfl rfl (Nat.le_of_ble_eq_true rfl) (by decide) (fun v101 w101 q101 => ?_)
          obtain ⟨rfl, u101⟩ := q101
          have mO : w101.1 m = .inr (9, [.int (nI 2), .ref (m + 1), .ref (m + 2), .ref (m + 3), .ref (m + 4), .ref (m + 5), .int (x 6), .int (x 7), .ref (m + 6), .ref (m + 7), .ref (m + 8), .ref (m + 9), .ref (m + 10), .int (x 13), .int (x 14), .int (x 15), .int (x 16), .int (x 17), .int (x 18), .int (x 19), .int (x 20), .int (x 21)]) := u101.1
          have mS := (u101.2.1 _ (by omega)).trans mS
          have mF := (u101.2.1 _ (by omega)).trans mF
          have mK := (u101.2.1 _ (by omega)).trans mK
          have m2 := (u101.2.1 _ (by omega)).trans m2
          have m3 := (u101.2.1 _ (by omega)).trans m3
          have m4 := (u101.2.1 _ (by omega)).trans m4
          have m5 := (u101.2.1 _ (by omega)).trans m5
          have m6 := (u101.2.1 _ (by omega)).trans m6
          have m7 := (u101.2.1 _ (by omega)).trans m7
          have m8 := (u101.2.1 _ (by omega)).trans m8
          refine J_goto (tgt := 108) dX9_nearestCushion_104 (by decide) ?_
          exact J_ireturn dX9_nearestCushion_108 rfl rfl (GM_of (c := 5) (v := 0) (G' := G) (th := 2) (gQ_eq ((onI_ok e6).trans (opA_no (show nrC (gS G) i = none from e96)))) (fun z => absurd z (by decide)) (hFr.up u101 (by omega) (by omega)) (by decide) ⟨va_up x 0 (nI 2), _, _, _, _, _, _, _, ⟨_, _, _, mO, mS, mF, mK, hfit⟩, ⟨m2, m3, m4, m5, m6, m7, m8⟩, (up_s _ _ _), ⟨((up_n _ _ (by decide)).trans x6), ((up_n _ _ (by decide)).trans x7), ((up_n _ _ (by decide)).trans x13), ((up_n _ _ (by decide)).trans x14), ((up_n _ _ (by decide)).trans x15), ((up_n _ _ (by decide)).trans x16)⟩, hRd⟩)
      · skip
        have h43 := mt (nI_leI (by omega) (by omega)).mpr h43
        have hV := cuq9_le hwf (s := i) (k := k) (by omega)
        refine J_aload_n dX9_nearestCushion_46 rfl rfl ?_
        refine J_iload dX9_nearestCushion_47 rfl ?_
        refine J_iconst (v := nI 1) dX9_nearestCushion_49 (by decide) ?_
        refine K_callV dX9_nearestCushion_50 YX9_block kX9_71 (rc_of mO rfl) (c_X9_bCu (x := va_up x 0 (nI 0)) mO mS hfit (show k < sNb (gS G) by omega)) rfl rfl (Nat.le_of_ble_eq_true rfl) (by decide) ?_
        refine J_if_ne (tgt := 59) dX9_nearestCushion_53 (by decide) (fun h53 => ?_) (fun h53 => ?_)
        · skip
          have e53 : sCu (gS G) k = true := b2i_ne.mp h53
          refine J_aload_n dX9_nearestCushion_59 rfl rfl ?_
          refine J_iload dX9_nearestCushion_60 rfl ?_
          refine K_callVp dX9_nearestCushion_62 YX9_ways kX9_84 (rc_of mO rfl) (c_X9_ways (x := va_up x 0 (nI 0)) ⟨_, _, _, mO, mS, mF, mK, hfit⟩ (show k < sNb (gS G) by omega)) rfl rfl (Nat.le_of_ble_eq_true rfl) (by decide) (fun v62 w62 q62 => ?_)
          obtain ⟨rfl, hF62, g62, mF62, hfar⟩ := q62
          have m2 := (hF62.1 _ (by omega)).trans m2
          have m3 := (hF62.1 _ (by omega)).trans m3
          have m4 := (hF62.1 _ (by omega)).trans m4
          have m5 := (hF62.1 _ (by omega)).trans m5
          have m6 := (hF62.1 _ (by omega)).trans m6
          have m7 := (hF62.1 _ (by omega)).trans m7
          have m8 := (hF62.1 _ (by omega)).trans m8
          have mK := (hF62.1 _ (by omega)).trans mK
          have mO := (hF62.1 _ (by omega)).trans mO
          have mS := (hF62.1 _ (by omega)).trans mS
          have mF := mF62
          refine J_aload_n dX9_nearestCushion_65 rfl rfl ?_
          refine J_getfield dX9_nearestCushion_66 fX9_34 mO rfl ?_
          refine J_iload_n dX9_nearestCushion_69 rfl rfl ?_
          have q70a := dF9_le hwf (s := i) (show k < sNb (gS G) by omega)
          refine K_iald (v := nI (dF 9999 (dS (gS G) i k))) dX9_nearestCushion_70 mF (by omega) (by decide) (hfar i (by omega)) ?_
          refine J_iload_n dX9_nearestCushion_71 rfl rfl ?_
          refine J_icmp_lt (tgt := 78) dX9_nearestCushion_72 (by decide) (fun h72 => ?_) (fun h72 => ?_)
          · skip
            have h72 := (nI_ltI (by omega) (by omega)).mp h72
            refine J_iload dX9_nearestCushion_78 rfl ?_
            refine J_istore_n dX9_nearestCushion_80 rfl (by decide) rfl ?_
            refine J_aload_n dX9_nearestCushion_81 rfl rfl ?_
            refine J_getfield dX9_nearestCushion_82 fX9_34 mO rfl ?_
            refine J_iload_n dX9_nearestCushion_85 rfl rfl ?_
            have q86a := dF9_le hwf (s := i) (show k < sNb (gS G) by omega)
            refine K_iald (v := nI (dF 9999 (dS (gS G) i k))) dX9_nearestCushion_86 mF (by omega) (by decide) (hfar i (by omega)) ?_
            refine J_istore_n dX9_nearestCushion_87 rfl (by decide) rfl ?_
            refine J_iinc (v := nI (k + 1)) dX9_nearestCushion_88 rfl (nI_succ _).symm (by decide) rfl ?_
            refine J_goto (tgt := 35) dX9_nearestCushion_91 (by decide) ?_
            obtain ⟨c, hc⟩ := dF_lt (show dF 9999 (dS (gS G) i k) < 9999 by omega)
            have hcc := dF_c hc
            have e : am (k + 1) (cuq (gS G) i) = some (k, dF 9999 (dS (gS G) i k)) := by
              rw [hcc]
              exact am_s2 (F := 9999) (by unfold cuq; rw [if_pos e53]; exact hc) (by omega)
            have g := ih (k + 1) _ _ (by omega) (by omega) mO mS m2 m3 m4 m5 m6 m7 m8 mF mK (hFr.tr hF62 (by omega) (by omega))
            rw [e] at g
            exact g
          · skip
            have h72 := mt (nI_ltI (by omega) (by omega)).mpr h72
            refine J_goto (tgt := 88) dX9_nearestCushion_75 (by decide) ?_
            refine J_iinc (v := nI (k + 1)) dX9_nearestCushion_88 rfl (nI_succ _).symm (by decide) rfl ?_
            refine J_goto (tgt := 35) dX9_nearestCushion_91 (by decide) ?_
            have e : am (k + 1) (cuq (gS G) i) = am k (cuq (gS G) i) := by
              cases hc : dS (gS G) i k with
              | none => exact am_s0 (by unfold cuq; rw [if_pos e53]; exact hc)
              | some c =>
                have hcc := dF_c hc
                have := dS_le hwf (show k < sNb (gS G) by omega) hc
                exact am_s1 (F := 9999) (by unfold cuq; rw [if_pos e53]; exact hc) (by omega) (by omega)
            rw [← e]
            exact ih (k + 1) _ _ (by omega) (by omega) mO mS m2 m3 m4 m5 m6 m7 m8 mF mK (hFr.tr hF62 (by omega) (by omega))
        · skip
          have e53 : sCu (gS G) k = false := b2i_eq.mp h53
          refine J_goto (tgt := 88) dX9_nearestCushion_56 (by decide) ?_
          refine J_iinc (v := nI (k + 1)) dX9_nearestCushion_88 rfl (nI_succ _).symm (by decide) rfl ?_
          refine J_goto (tgt := 35) dX9_nearestCushion_91 (by decide) ?_
          have e : am (k + 1) (cuq (gS G) i) = am k (cuq (gS G) i) := am_s0 (by unfold cuq; rw [e53]; rfl)
          rw [← e]
          exact ih (k + 1) _ _ (by omega) (by omega) mO mS m2 m3 m4 m5 m6 m7 m8 mF mK hFr
  refine J_aload_n dX9_nearestCushion_0 rfl rfl ?_
  refine J_aload_n dX9_nearestCushion_1 rfl rfl ?_
  refine J_iload_n dX9_nearestCushion_2 rfl rfl ?_
  refine K_callV dX9_nearestCushion_3 YX9_isBlock kX9_91 (rc_of mO rfl) (c_X9_isBlock mO mS hfit _) rfl rfl (Nat.le_of_ble_eq_true rfl) (by decide) ?_
  refine J_if_eq (tgt := 13) dX9_nearestCushion_6 (by decide) (fun h6 => ?_) (fun h6 => ?_)
  · skip
    have e6 : (vi (sNb (gS G)) y).isSome = false := b2i_eq.mp h6
    have e6 := isS_no e6
    refine J_iconst (v := nI 1) dX9_nearestCushion_13 (by decide) ?_
    refine K_putI dX9_nearestCushion_14 fX9_47 (Or.inl rfl) mO (Nat.le_of_ble_eq_true rfl) (fun w1 u1 => ?_)
    have m2 := (u1.2.1 _ (by omega)).trans m2
    have m3 := (u1.2.1 _ (by omega)).trans m3
    have m4 := (u1.2.1 _ (by omega)).trans m4
    have m5 := (u1.2.1 _ (by omega)).trans m5
    have m6 := (u1.2.1 _ (by omega)).trans m6
    have m7 := (u1.2.1 _ (by omega)).trans m7
    have m8 := (u1.2.1 _ (by omega)).trans m8
    have mF := (u1.2.1 _ (by omega)).trans mF
    have mK := (u1.2.1 _ (by omega)).trans mK
    have mO := u1.1
    have mS := (u1.2.1 _ (by omega)).trans mS
    have mO : w1.1 m = .inr (9, [.int (nI 1), .ref (m + 1), .ref (m + 2), .ref (m + 3), .ref (m + 4), .ref (m + 5), .int (x 6), .int (x 7), .ref (m + 6), .ref (m + 7), .ref (m + 8), .ref (m + 9), .ref (m + 10), .int (x 13), .int (x 14), .int (x 15), .int (x 16), .int (x 17), .int (x 18), .int (x 19), .int (x 20), .int (x 21)]) := mO
    refine J_aload_n dX9_nearestCushion_17 rfl rfl ?_
    refine J_getfield dX9_nearestCushion_18 fX9_47 mO rfl ?_
    refine J_if_le (tgt := 26) dX9_nearestCushion_21 (by decide) (fun h21 => absurd h21 (by decide)) (fun h21 => ?_)
    refine J_iconst (v := nI 0) dX9_nearestCushion_24 (by decide) ?_
    exact J_ireturn dX9_nearestCushion_25 rfl rfl (GM_of (c := 1) (v := 0) (G' := G) (th := 1) (gQ_eq (onI_no e6)) (fun z => absurd z (by decide)) ((Fr.rf w m (m + 11)).up u1 (by omega) (by omega)) (by decide) ⟨va_up x 0 (nI 1), _, _, _, _, _, _, _, ⟨_, _, _, mO, mS, mF, mK, hfit⟩, ⟨m2, m3, m4, m5, m6, m7, m8⟩, (up_s _ _ _), ⟨((up_n _ _ (by decide)).trans x6), ((up_n _ _ (by decide)).trans x7), ((up_n _ _ (by decide)).trans x13), ((up_n _ _ (by decide)).trans x14), ((up_n _ _ (by decide)).trans x15), ((up_n _ _ (by decide)).trans x16)⟩, hRd⟩)
  · skip
    have e6 : (vi (sNb (gS G)) y).isSome = true := b2i_ne.mp h6
    obtain ⟨i, e6⟩ := isS_yes e6
    obtain ⟨hi, rfl⟩ := vi_some (by omega) e6
    refine J_iconst (v := nI 0) dX9_nearestCushion_9 (by decide) ?_
    refine J_goto (tgt := 14) dX9_nearestCushion_10 (by decide) ?_
    refine K_putI dX9_nearestCushion_14 fX9_47 (Or.inl rfl) mO (Nat.le_of_ble_eq_true rfl) (fun w1 u1 => ?_)
    have m2 := (u1.2.1 _ (by omega)).trans m2
    have m3 := (u1.2.1 _ (by omega)).trans m3
    have m4 := (u1.2.1 _ (by omega)).trans m4
    have m5 := (u1.2.1 _ (by omega)).trans m5
    have m6 := (u1.2.1 _ (by omega)).trans m6
    have m7 := (u1.2.1 _ (by omega)).trans m7
    have m8 := (u1.2.1 _ (by omega)).trans m8
    have mF := (u1.2.1 _ (by omega)).trans mF
    have mK := (u1.2.1 _ (by omega)).trans mK
    have mO := u1.1
    have mS := (u1.2.1 _ (by omega)).trans mS
    have mO : w1.1 m = .inr (9, [.int (nI 0), .ref (m + 1), .ref (m + 2), .ref (m + 3), .ref (m + 4), .ref (m + 5), .int (x 6), .int (x 7), .ref (m + 6), .ref (m + 7), .ref (m + 8), .ref (m + 9), .ref (m + 10), .int (x 13), .int (x 14), .int (x 15), .int (x 16), .int (x 17), .int (x 18), .int (x 19), .int (x 20), .int (x 21)]) := mO
    refine J_aload_n dX9_nearestCushion_17 rfl rfl ?_
    refine J_getfield dX9_nearestCushion_18 fX9_47 mO rfl ?_
    refine J_if_le (tgt := 26) dX9_nearestCushion_21 (by decide) (fun h21 => ?_) (fun h21 => absurd h21 (by decide))
    refine J_iconst (v := (-1)) dX9_nearestCushion_26 (by decide) ?_
    refine J_istore_n dX9_nearestCushion_27 rfl (by decide) rfl ?_
    refine J_sipush (v := nI 9999) dX9_nearestCushion_28 (by decide) ?_
    refine J_istore_n dX9_nearestCushion_31 rfl (by decide) rfl ?_
    refine J_iconst (v := nI 0) dX9_nearestCushion_32 (by decide) ?_
    refine J_istore dX9_nearestCushion_33 (by decide) rfl ?_
    exact loop i hi e6 (sNb (gS G) + 1) 0 _ _ (by omega) (by omega) mO mS m2 m3 m4 m5 m6 m7 m8 mF mK ((Fr.rf w m (m + 11)).up u1 (by omega) (by omega))

end JMASK2

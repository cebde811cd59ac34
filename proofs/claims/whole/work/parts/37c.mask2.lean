/-! THE MODEL: its questions, more -/
section JMASK2
theorem prB_of {S : St} {b fs : Nat} (h1 : fs = b → ∀ a, a < b → dS S a b = none) (h2 : fs ≠ b → ∃ a c, a < b ∧ dS S a b = some c) : prB S b = decide (fs = b) := by
  by_cases e : fs = b
  · rw [decide_eq_true e]
    unfold prB
    rw [fnd_none (fun j hj => by rw [h1 e j hj]; rfl)]
    rfl
  · rw [decide_eq_false e]
    unfold prB
    obtain ⟨a, c, ha, hc⟩ := h2 e
    cases q : fnd b (fun a => (dS S a b).isSome) with
    | none =>
      have := fnd_no q a ha
      rw [hc] at this
      cases this
    | some _ => rfl
theorem c_X9_partCount {w : Wd} {m : Nat} {G : Gme} {th : Nat} (hM : RepM w m G th)  : MC 4 mX9_partCount 0 0 [.ref m] w (GM w m [] (gQ G (ok0 (nI (pcN (gS G)))))) := by
  obtain ⟨x, f2, f3, f4, f5, f6, f7, f8, hA, ⟨m2, m3, m4, m5, m6, m7, m8⟩, hx0, hRx, hRd⟩ := id hM
  obtain ⟨x6, x7, x13, x14, x15, x16⟩ := id hRx
  obtain ⟨hV, hP, hT, hO, ⟨hb8, hb60, hb14⟩, hE, hF⟩ := id hRd
  obtain ⟨f, g, h, mO, mS, mF, mK, hfit⟩ := id hA
  have hwf := hfit.2.2.2.2
  have hnb := hwf.nb
  have hnt := hwf.nt
  refine MC_j pnX9 rfl rfl rfl (Or.inr (fun E w h => RP_no E w h)) ?_
  show J 4 mX9_partCount 0 [some (.ref m), none, none, none, none] [] w 0 0 _
  have loop : ∀ n b g1 w1 o3 o4, sNb (gS G) < n + b → b ≤ sNb (gS G) → w1.1 m = mCell m (va_up x 0 (nI 0)) → w1.1 (m + 1) = .inl (0, 116, .inl f) → w1.1 (m + 2) = .inl (0, 116, .inl f2) → w1.1 (m + 3) = .inl (0, 116, .inl f3) → w1.1 (m + 4) = .inl (0, 928, .inl f4) → w1.1 (m + 5) = .inl (0, 116, .inl f5) → w1.1 (m + 6) = .inl (0, 60, .inl f6) → w1.1 (m + 7) = .inl (0, 180, .inl f7) → w1.1 (m + 8) = .inl (0, 40, .inl f8) → w1.1 (m + 9) = .inl (0, 14, .inl g1) → w1.1 (m + 10) = .inl (0, 14, .inl h) → Fr w w1 m (m + 11) → J 4 mX9_partCount 9 [some (.ref m), some (.int (nI (cnt b (prB (gS G))))), some (.int (nI b)), o3, o4] [] w1 0 0 (GM w m [] (gQ G (ok0 (nI (pcN (gS G)))))) := by
    intro n
    induction n with
    | zero => intros; omega
    | succ n ih =>
      intro b g1 w1 o3 o4 q1 q2 mO mS m2 m3 m4 m5 m6 m7 m8 mF mK hFr
      have inner : ∀ g1 w1, b < sNb (gS G) → w1.1 m = mCell m (va_up x 0 (nI 0)) → w1.1 (m + 1) = .inl (0, 116, .inl f) → w1.1 (m + 2) = .inl (0, 116, .inl f2) → w1.1 (m + 3) = .inl (0, 116, .inl f3) → w1.1 (m + 4) = .inl (0, 928, .inl f4) → w1.1 (m + 5) = .inl (0, 116, .inl f5) → w1.1 (m + 6) = .inl (0, 60, .inl f6) → w1.1 (m + 7) = .inl (0, 180, .inl f7) → w1.1 (m + 8) = .inl (0, 40, .inl f8) → w1.1 (m + 9) = .inl (0, 14, .inl g1) → w1.1 (m + 10) = .inl (0, 14, .inl h) → Fr w w1 m (m + 11) → (∀ a, a < sNb (gS G) → g1 a = nI (dF 9999 (dS (gS G) a b))) → J 4 mX9_partCount 31 [some (.ref m), some (.int (nI (cnt b (prB (gS G))))), some (.int (nI b)), some (.int (nI b)), some (.int (nI b - nI 1))] [] w1 0 0 (GM w m [] (gQ G (ok0 (nI (pcN (gS G)))))) := by
        intro g1 w1 hb mO mS m2 m3 m4 m5 m6 m7 m8 mF mK hFr hfar
        have mO : w1.1 m = .inr (9, [.int (nI 0), .ref (m + 1), .ref (m + 2), .ref (m + 3), .ref (m + 4), .ref (m + 5), .int (x 6), .int (x 7), .ref (m + 6), .ref (m + 7), .ref (m + 8), .ref (m + 9), .ref (m + 10), .int (x 13), .int (x 14), .int (x 15), .int (x 16), .int (x 17), .int (x 18), .int (x 19), .int (x 20), .int (x 21)]) := mO
        have fin : ∀ fs o4, (∀ a, 0 ≤ a → a < b → fs = b → dS (gS G) a b = none) → (fs ≠ b → ∃ a c, a < b ∧ dS (gS G) a b = some c) → fs ≤ b → J 4 mX9_partCount 62 [some (.ref m), some (.int (nI (cnt b (prB (gS G))))), some (.int (nI b)), some (.int (nI fs)), o4] [] w1 0 0 (GM w m [] (gQ G (ok0 (nI (pcN (gS G)))))) := by
          intro fs o4 i1 i2 i3
          have hpr := prB_of (fun e a ha => i1 a (by omega) ha e) i2
          refine J_iload_n dX9_partCount_62 rfl rfl ?_
          refine J_iload_n dX9_partCount_63 rfl rfl ?_
          refine J_iload_n dX9_partCount_64 rfl rfl ?_
          refine J_icmp_ne (tgt := 72) dX9_partCount_65 (by decide) (fun h65 => ?_) (fun h65 => ?_)
          · skip
            have h65 := mt (nI_eq (by omega) (by omega)).mpr h65
            refine J_iconst (v := nI 0) dX9_partCount_72 (by decide) ?_
            refine K_iadd (v := nI (cnt b (prB (gS G)) + 0)) dX9_partCount_73 (nI_add _ _) ?_
            refine J_istore_n dX9_partCount_74 rfl (by decide) rfl ?_
            refine J_iinc (v := nI (b + 1)) dX9_partCount_75 rfl (nI_succ _).symm (by decide) rfl ?_
            refine J_goto (tgt := 9) dX9_partCount_78 (by decide) ?_
            have ec := cnt_f (p := prB (gS G)) (n := b) (by rw [hpr, decide_eq_false (show ¬ fs = b by omega)])
            rw [← ec]
            exact ih (b + 1) _ _ _ _ (by omega) (by omega) mO mS m2 m3 m4 m5 m6 m7 m8 mF mK hFr
          · skip
            have h65 := (nI_eq (by omega) (by omega)).mp h65
            refine J_iconst (v := nI 1) dX9_partCount_68 (by decide) ?_
            refine J_goto (tgt := 73) dX9_partCount_69 (by decide) ?_
            refine K_iadd (v := nI (cnt b (prB (gS G)) + 1)) dX9_partCount_73 (nI_add _ _) ?_
            refine J_istore_n dX9_partCount_74 rfl (by decide) rfl ?_
            refine J_iinc (v := nI (b + 1)) dX9_partCount_75 rfl (nI_succ _).symm (by decide) rfl ?_
            refine J_goto (tgt := 9) dX9_partCount_78 (by decide) ?_
            have ec := cnt_t (p := prB (gS G)) (n := b) (by rw [hpr, decide_eq_true (show fs = b by omega)])
            rw [← ec]
            exact ih (b + 1) _ _ _ _ (by omega) (by omega) mO mS m2 m3 m4 m5 m6 m7 m8 mF mK hFr
        have loopj : ∀ j fs, j ≤ b → (∀ a, j ≤ a → a < b → fs = b → dS (gS G) a b = none) → (fs ≠ b → ∃ a c, a < b ∧ dS (gS G) a b = some c) → fs ≤ b → J 4 mX9_partCount 31 [some (.ref m), some (.int (nI (cnt b (prB (gS G))))), some (.int (nI b)), some (.int (nI fs)), some (.int (nI j - nI 1))] [] w1 0 0 (GM w m [] (gQ G (ok0 (nI (pcN (gS G)))))) := by
          intro j
          induction j with
          | zero =>
            intro fs hj i1 i2 i3
            rw [show nI 0 - nI 1 = -1 from by decide]
            refine J_iload dX9_partCount_31 rfl ?_
            refine J_if_lt (tgt := 62) dX9_partCount_33 (by decide) (fun h33 => ?_) (fun h33 => absurd h33 (by decide))
            exact fin fs _ i1 i2 i3
          | succ j ihj =>
            intro fs hj i1 i2 i3
            rw [nI_sub (show 1 ≤ j + 1 by omega), Nat.add_sub_cancel]
            refine J_iload dX9_partCount_31 rfl ?_
            refine J_if_lt (tgt := 62) dX9_partCount_33 (by decide) (fun h33 => absurd h33 (nI_pos (by omega))) (fun h33 => ?_)
            refine J_aload_n dX9_partCount_36 rfl rfl ?_
            refine J_getfield dX9_partCount_37 fX9_34 mO rfl ?_
            refine J_iload dX9_partCount_40 rfl ?_
            have q42a := dF9_le hwf (s := j) hb
            refine K_iald (v := nI (dF 9999 (dS (gS G) j b))) dX9_partCount_42 mF (by omega) (by decide) (hfar j (by omega)) ?_
            refine J_sipush (v := nI 9999) dX9_partCount_43 (by decide) ?_
            refine J_icmp_ge (tgt := 54) dX9_partCount_46 (by decide) (fun h46 => ?_) (fun h46 => ?_)
            · skip
              have h46 := (nI_leI (by omega) (by omega)).mp h46
              have hc := dF_ge (fun c e => dS_le hwf hb e) (show ¬ dF 9999 (dS (gS G) j b) < 9999 by omega)
              refine J_iload_n dX9_partCount_54 rfl rfl ?_
              refine J_istore_n dX9_partCount_55 rfl (by decide) rfl ?_
              refine J_iinc (v := nI j - nI 1) dX9_partCount_56 rfl (dec1 j) (by decide) rfl ?_
              refine J_goto (tgt := 31) dX9_partCount_59 (by decide) ?_
              exact ihj fs (by omega) (fun a ha hab he => by
                by_cases z : a = j
                · subst z; exact hc
                · exact i1 a (by omega) hab he) i2 i3
            · skip
              have h46 := mt (nI_leI (by omega) (by omega)).mpr h46
              obtain ⟨c, hc⟩ := dF_lt (show dF 9999 (dS (gS G) j b) < 9999 by omega)
              refine J_iload dX9_partCount_49 rfl ?_
              refine J_goto (tgt := 55) dX9_partCount_51 (by decide) ?_
              refine J_istore_n dX9_partCount_55 rfl (by decide) rfl ?_
              refine J_iinc (v := nI j - nI 1) dX9_partCount_56 rfl (dec1 j) (by decide) rfl ?_
              refine J_goto (tgt := 31) dX9_partCount_59 (by decide) ?_
              exact ihj j (by omega) (fun a ha hab he => by omega) (fun _ => ⟨j, c, by omega, hc⟩) (by omega)
        exact loopj b b (Nat.le_refl _) (fun a ha hab _ => by omega) (fun z => absurd rfl z) (Nat.le_refl _)
      have mO : w1.1 m = .inr (9, [.int (nI 0), .ref (m + 1), .ref (m + 2), .ref (m + 3), .ref (m + 4), .ref (m + 5), .int (x 6), .int (x 7), .ref (m + 6), .ref (m + 7), .ref (m + 8), .ref (m + 9), .ref (m + 10), .int (x 13), .int (x 14), .int (x 15), .int (x 16), .int (x 17), .int (x 18), .int (x 19), .int (x 20), .int (x 21)]) := mO
      refine J_iload_n dX9_partCount_9 rfl rfl ?_
      refine J_aload_n dX9_partCount_10 rfl rfl ?_
      refine J_getfield dX9_partCount_11 fX9_7 mO rfl ?_
      refine J_iconst (v := nI 0) dX9_partCount_14 (by decide) ?_
      refine K_iald (v := nI (sNb (gS G))) dX9_partCount_15 mS (by omega) (by decide) hfit.1.1 ?_
      refine J_icmp_ge (tgt := 81) dX9_partCount_16 (by decide) (fun h16 => ?_) (fun h16 => ?_)
      · skip
        have h16 := (nI_leI (by omega) (by omega)).mp h16
        have eb : b = sNb (gS G) := by omega
        subst eb
        refine J_iload_n dX9_partCount_81 rfl rfl ?_
        exact J_ireturn dX9_partCount_82 rfl rfl (GM_of (c := 0) (v := nI (pcN (gS G))) (G' := G) (th := 0) (rfl) (fun _ => rfl) hFr (by decide) ⟨va_up x 0 (nI 0), _, _, _, _, _, _, _, ⟨_, _, _, mO, mS, mF, mK, hfit⟩, ⟨m2, m3, m4, m5, m6, m7, m8⟩, (up_s _ _ _), ⟨((up_n _ _ (by decide)).trans x6), ((up_n _ _ (by decide)).trans x7), ((up_n _ _ (by decide)).trans x13), ((up_n _ _ (by decide)).trans x14), ((up_n _ _ (by decide)).trans x15), ((up_n _ _ (by decide)).trans x16)⟩, hRd⟩)
      · skip
        have h16 := mt (nI_leI (by omega) (by omega)).mpr h16
        refine J_aload_n dX9_partCount_19 rfl rfl ?_
        refine J_iload_n dX9_partCount_20 rfl rfl ?_
        refine K_callVp dX9_partCount_21 YX9_ways kX9_84 (rc_of mO rfl) (c_X9_ways (x := va_up x 0 (nI 0)) ⟨_, _, _, mO, mS, mF, mK, hfit⟩ (show b < sNb (gS G) by omega)) rfl rfl (Nat.le_of_ble_eq_true rfl) (by decide) (fun v21 w21 q21 => ?_)
        obtain ⟨rfl, hF21, g21, mF21, hfar⟩ := q21
        have m2 := (hF21.1 _ (by omega)).trans m2
        have m3 := (hF21.1 _ (by omega)).trans m3
        have m4 := (hF21.1 _ (by omega)).trans m4
        have m5 := (hF21.1 _ (by omega)).trans m5
        have m6 := (hF21.1 _ (by omega)).trans m6
        have m7 := (hF21.1 _ (by omega)).trans m7
        have m8 := (hF21.1 _ (by omega)).trans m8
        have mK := (hF21.1 _ (by omega)).trans mK
        have mO := (hF21.1 _ (by omega)).trans mO
        have mS := (hF21.1 _ (by omega)).trans mS
        have mF := mF21
        refine J_iload_n dX9_partCount_24 rfl rfl ?_
        refine J_istore_n dX9_partCount_25 rfl (by decide) rfl ?_
        refine J_iload_n dX9_partCount_26 rfl rfl ?_
        refine J_iconst (v := nI 1) dX9_partCount_27 (by decide) ?_
        refine K_isub (v := nI b - nI 1) dX9_partCount_28 rfl ?_
        refine J_istore dX9_partCount_29 (by decide) rfl ?_
        exact inner _ _ (by omega) mO mS m2 m3 m4 m5 m6 m7 m8 mF mK (hFr.tr hF21 (by omega) (by omega)) hfar
  refine J_aload_n dX9_partCount_0 rfl rfl ?_
  refine J_iconst (v := nI 0) dX9_partCount_1 (by decide) ?_
  refine K_putI dX9_partCount_2 fX9_47 (Or.inl rfl) mO (Nat.le_of_ble_eq_true rfl) (fun w1 u1 => ?_)
  have m2 := (u1.2.1 _ (by omega)).trans m2
  have m3 := (u1.2.1 _ (by omega)).trans m3
  have m4 := (u1.2.1 _ (by omega)).trans m4
  have m5 := (u1.2.1 _ (by omega)).trans m5
  have m6 := (u1.2.1 _ (by omega)).trans m6
  have m7 := (u1.2.1 _ (by omega)).trans m7
  have m8 := (u1.2.1 _ (by omega)).trans m8
  have mF := (u1.2.1 _ (by omega)).trans mF
  have mK := (u1.2.1 _ (by omega)).trans mK
  have mO := u1.1
  have mS := (u1.2.1 _ (by omega)).trans mS
  have mO : w1.1 m = .inr (9, [.int (nI 0), .ref (m + 1), .ref (m + 2), .ref (m + 3), .ref (m + 4), .ref (m + 5), .int (x 6), .int (x 7), .ref (m + 6), .ref (m + 7), .ref (m + 8), .ref (m + 9), .ref (m + 10), .int (x 13), .int (x 14), .int (x 15), .int (x 16), .int (x 17), .int (x 18), .int (x 19), .int (x 20), .int (x 21)]) := mO
  refine J_iconst (v := nI 0) dX9_partCount_5 (by decide) ?_
  refine J_istore_n dX9_partCount_6 rfl (by decide) rfl ?_
  refine J_iconst (v := nI 0) dX9_partCount_7 (by decide) ?_
  refine J_istore_n dX9_partCount_8 rfl (by decide) rfl ?_
  exact loop (sNb (gS G) + 1) 0 _ _ none none (by omega) (by omega) mO mS m2 m3 m4 m5 m6 m7 m8 mF mK ((Fr.rf w m (m + 11)).up u1 (by omega) (by omega))

theorem c_X9_partCountByUnions {w : Wd} {m : Nat} {G : Gme} {th : Nat} (hM : RepM w m G th)  : MC 5 mX9_partCountByUnions 0 0 [.ref m] w (GM w m [] (gQ G (ok0 (nI (pcN (gS G)))))) := by
  obtain ⟨x, f2, f3, f4, f5, f6, f7, f8, hA, ⟨m2, m3, m4, m5, m6, m7, m8⟩, hx0, hRx, hRd⟩ := id hM
  obtain ⟨x6, x7, x13, x14, x15, x16⟩ := id hRx
  obtain ⟨hV, hP, hT, hO, ⟨hb8, hb60, hb14⟩, hE, hF⟩ := id hRd
  obtain ⟨f, g, h, mO, mS, mF, mK, hfit⟩ := id hA
  have hwf := hfit.2.2.2.2
  have hnb := hwf.nb
  have hnt := hwf.nt
  refine MC_j pnX9 rfl rfl rfl (Or.inr (fun E w h => RP_no E w h)) ?_
  show J 5 mX9_partCountByUnions 0 [some (.ref m)] [] w 0 0 _
  refine J_aload_n dX9_partCountByUnions_0 rfl rfl ?_
  refine K_callVp dX9_partCountByUnions_1 YX9_partCount kX9_157 (rc_of mO rfl) (c_X9_partCount hM) rfl rfl (Nat.le_of_ble_eq_true rfl) (by decide) (fun v1 w1 q1 => ?_)
  obtain ⟨⟨yv, rfl, hy⟩, hF, hR⟩ := q1
  exact J_ireturn dX9_partCountByUnions_4 rfl rfl (RP_i ⟨⟨yv, rfl, hy⟩, hF, hR⟩)

end JMASK2

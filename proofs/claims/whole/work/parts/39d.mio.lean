/-! THE MODEL: output, input, what is kept -/
section JMIO
theorem c_X9_save {w : Wd} {m : Nat} {G : Gme} {th : Nat} (hM : RepM w m G th)  : MC 2 mX9_save 0 0 [.ref m] w (GM w m [] (gSave G)) := by
  obtain ⟨x, f2, f3, f4, f5, f6, f7, f8, hA, ⟨m2, m3, m4, m5, m6, m7, m8⟩, hx0, hRx, hRd⟩ := id hM
  obtain ⟨x6, x7, x13, x14, x15, x16⟩ := id hRx
  obtain ⟨hV, hP, hT, hO, ⟨hb8, hb60, hb14⟩, hE, hF⟩ := id hRd
  obtain ⟨f, g, h, mO, mS, mF, mK, hfit⟩ := id hA
  have hwf := hfit.2.2.2.2
  have hnb := hwf.nb
  have hnt := hwf.nt
  refine MC_j pnX9 rfl rfl rfl (Or.inr (fun E w h => RP_no E w h)) ?_
  show J 2 mX9_save 0 [some (.ref m), none] [] w 0 0 _
  have next : ∀ fd w1 o1, w1.1 m = mCell m (va_up x 0 (nI 0)) → w1.1 (m + 1) = .inl (0, 116, .inl f) → w1.1 (m + 2) = .inl (0, 116, .inl f2) → w1.1 (m + 3) = .inl (0, 116, .inl fd) → w1.1 (m + 4) = .inl (0, 928, .inl f4) → w1.1 (m + 5) = .inl (0, 116, .inl f5) → w1.1 (m + 6) = .inl (0, 60, .inl f6) → w1.1 (m + 7) = .inl (0, 180, .inl f7) → w1.1 (m + 8) = .inl (0, 40, .inl f8) → w1.1 (m + 9) = .inl (0, 14, .inl g) → w1.1 (m + 10) = .inl (0, 14, .inl h) → Fr w w1 m (m + 11) → (∀ j, j < 116 → fd j = f j) → J 2 mX9_save 31 [some (.ref m), o1] [] w1 0 0 (GM w m [] (gSave G)) := by
    intro fd w1 o1 mO mS m2 m3 m4 m5 m6 m7 m8 mF mK hFr hrow
    have mO : w1.1 m = .inr (9, [.int (nI 0), .ref (m + 1), .ref (m + 2), .ref (m + 3), .ref (m + 4), .ref (m + 5), .int (x 6), .int (x 7), .ref (m + 6), .ref (m + 7), .ref (m + 8), .ref (m + 9), .ref (m + 10), .int (x 13), .int (x 14), .int (x 15), .int (x 16), .int (x 17), .int (x 18), .int (x 19), .int (x 20), .int (x 21)]) := mO
    refine J_aload_n dX9_save_31 rfl rfl ?_
    refine J_iconst (v := nI 1) dX9_save_32 (by decide) ?_
    refine K_putZ dX9_save_33 fX9_275 (Or.inl rfl) mO (Nat.le_of_ble_eq_true rfl) (Or.inr rfl) (fun w1 u1 => ?_)
    have m2 := (u1.2.1 _ (by omega)).trans m2
    have m3 := (u1.2.1 _ (by omega)).trans m3
    have m4 := (u1.2.1 _ (by omega)).trans m4
    have m5 := (u1.2.1 _ (by omega)).trans m5
    have m6 := (u1.2.1 _ (by omega)).trans m6
    have m7 := (u1.2.1 _ (by omega)).trans m7
    have m8 := (u1.2.1 _ (by omega)).trans m8
    have mF := (u1.2.1 _ (by omega)).trans mF
    have mK := (u1.2.1 _ (by omega)).trans mK
    have mO := u1.1
    have mS := (u1.2.1 _ (by omega)).trans mS
    have mO : w1.1 m = .inr (9, [.int (nI 0), .ref (m + 1), .ref (m + 2), .ref (m + 3), .ref (m + 4), .ref (m + 5), .int (x 6), .int (nI 1), .ref (m + 6), .ref (m + 7), .ref (m + 8), .ref (m + 9), .ref (m + 10), .int (x 13), .int (x 14), .int (x 15), .int (x 16), .int (x 17), .int (x 18), .int (x 19), .int (x 20), .int (x 21)]) := mO
    refine J_aload_n dX9_save_36 rfl rfl ?_
    refine J_getfield dX9_save_37 fX9_7 mO rfl ?_
    refine J_iconst (v := nI 0) dX9_save_40 (by decide) ?_
    refine K_iald (v := nI (sNb (gS G))) dX9_save_41 mS (by omega) (by decide) hfit.1.1 ?_
    exact J_ireturn dX9_save_42 rfl rfl (GM_of (c := 0) (v := nI (sNb (gS G))) (G' := ((gS G, gS G, true), G.2)) (th := 0) (rfl) (fun _ => rfl) (hFr.up u1 (by omega) (by omega)) (by decide) ⟨va_up (va_up x 0 (nI 0)) 7 (nI 1), f2, fd, f4, f5, f6, f7, f8, ⟨_, _, _, mO, mS, mF, mK, hfit⟩, ⟨m2, m3, m4, m5, m6, m7, m8⟩, ((up_n _ _ (by decide)).trans (up_s _ _ _)), ⟨((up_n _ _ (by decide)).trans ((up_n _ _ (by decide)).trans x6)), (up_s _ _ _), ((up_n _ _ (by decide)).trans ((up_n _ _ (by decide)).trans x13)), ((up_n _ _ (by decide)).trans ((up_n _ _ (by decide)).trans x14)), ((up_n _ _ (by decide)).trans ((up_n _ _ (by decide)).trans x15)), ((up_n _ _ (by decide)).trans ((up_n _ _ (by decide)).trans x16))⟩, ⟨fit_kept hfit hrow, hP, hT, hO, ⟨hb8, hb60, hb14⟩, hE, hF⟩⟩)
  have copy : ∀ n k fd w1, 116 < n + k → k ≤ 116 → w1.1 m = mCell m (va_up x 0 (nI 0)) → w1.1 (m + 1) = .inl (0, 116, .inl f) → w1.1 (m + 2) = .inl (0, 116, .inl f2) → w1.1 (m + 3) = .inl (0, 116, .inl fd) → w1.1 (m + 4) = .inl (0, 928, .inl f4) → w1.1 (m + 5) = .inl (0, 116, .inl f5) → w1.1 (m + 6) = .inl (0, 60, .inl f6) → w1.1 (m + 7) = .inl (0, 180, .inl f7) → w1.1 (m + 8) = .inl (0, 40, .inl f8) → w1.1 (m + 9) = .inl (0, 14, .inl g) → w1.1 (m + 10) = .inl (0, 14, .inl h) → Fr w w1 m (m + 11) → (∀ j, j < k → fd j = f j) → J 2 mX9_save 7 [some (.ref m), some (.int (nI k))] [] w1 0 0 (GM w m [] (gSave G)) := by
    intro n
    induction n with
    | zero => intros; omega
    | succ n ih =>
      intro k fd w1 q1 q2 mO mS m2 m3 m4 m5 m6 m7 m8 mF mK hFr hrow
      have mO : w1.1 m = .inr (9, [.int (nI 0), .ref (m + 1), .ref (m + 2), .ref (m + 3), .ref (m + 4), .ref (m + 5), .int (x 6), .int (x 7), .ref (m + 6), .ref (m + 7), .ref (m + 8), .ref (m + 9), .ref (m + 10), .int (x 13), .int (x 14), .int (x 15), .int (x 16), .int (x 17), .int (x 18), .int (x 19), .int (x 20), .int (x 21)]) := mO
      refine J_iload_n dX9_save_7 rfl rfl ?_
      refine J_bipush (v := nI 116) dX9_save_8 (by decide) ?_
      refine J_icmp_ge (tgt := 31) dX9_save_10 (by decide) (fun h10 => ?_) (fun h10 => ?_)
      · skip
        have h10 := (nI_leI (by omega) (by omega)).mp h10
        have ek : k = 116 := by omega
        exact next fd w1 _ mO mS m2 m3 m4 m5 m6 m7 m8 mF mK hFr (fun j hj => hrow j (by omega))
      · skip
        have h10 := mt (nI_leI (by omega) (by omega)).mpr h10
        refine J_aload_n dX9_save_13 rfl rfl ?_
        refine J_getfield dX9_save_14 fX9_16 mO rfl ?_
        refine J_iload_n dX9_save_17 rfl rfl ?_
        refine J_aload_n dX9_save_18 rfl rfl ?_
        refine J_getfield dX9_save_19 fX9_7 mO rfl ?_
        refine J_iload_n dX9_save_22 rfl rfl ?_
        refine K_iald (v := f k) dX9_save_23 mS (by omega) (by decide) rfl ?_
        refine K_iast dX9_save_24 m3 (by omega) (by decide) (fun w1 u1 => ?_)
        have m2 := (u1.2.1 _ (by omega)).trans m2
        have m3 := u1.1
        have m4 := (u1.2.1 _ (by omega)).trans m4
        have m5 := (u1.2.1 _ (by omega)).trans m5
        have m6 := (u1.2.1 _ (by omega)).trans m6
        have m7 := (u1.2.1 _ (by omega)).trans m7
        have m8 := (u1.2.1 _ (by omega)).trans m8
        have mF := (u1.2.1 _ (by omega)).trans mF
        have mK := (u1.2.1 _ (by omega)).trans mK
        have mO := (u1.2.1 _ (by omega)).trans mO
        have mS := (u1.2.1 _ (by omega)).trans mS
        refine J_iinc (v := nI (k + 1)) dX9_save_25 rfl (nI_succ _).symm (by decide) rfl ?_
        refine J_goto (tgt := 7) dX9_save_28 (by decide) ?_
        exact ih (k + 1) _ _ (by omega) (by omega) mO mS m2 m3 m4 m5 m6 m7 m8 mF mK (hFr.up u1 (by omega) (by omega)) (fun j hj => by
          by_cases e : j = k
          · subst e; rw [up_s]
          · rw [up_n _ _ e]; exact hrow j (by omega))
  refine J_aload_n dX9_save_0 rfl rfl ?_
  refine J_iconst (v := nI 0) dX9_save_1 (by decide) ?_
  refine K_putI dX9_save_2 fX9_47 (Or.inl rfl) mO (Nat.le_of_ble_eq_true rfl) (fun w1 u1 => ?_)
  have m2 := (u1.2.1 _ (by omega)).trans m2
  have m3 := (u1.2.1 _ (by omega)).trans m3
  have m4 := (u1.2.1 _ (by omega)).trans m4
  have m5 := (u1.2.1 _ (by omega)).trans m5
  have m6 := (u1.2.1 _ (by omega)).trans m6
  have m7 := (u1.2.1 _ (by omega)).trans m7
  have m8 := (u1.2.1 _ (by omega)).trans m8
  have mF := (u1.2.1 _ (by omega)).trans mF
  have mK := (u1.2.1 _ (by omega)).trans mK
  have mO := u1.1
  have mS := (u1.2.1 _ (by omega)).trans mS
  have mO : w1.1 m = .inr (9, [.int (nI 0), .ref (m + 1), .ref (m + 2), .ref (m + 3), .ref (m + 4), .ref (m + 5), .int (x 6), .int (x 7), .ref (m + 6), .ref (m + 7), .ref (m + 8), .ref (m + 9), .ref (m + 10), .int (x 13), .int (x 14), .int (x 15), .int (x 16), .int (x 17), .int (x 18), .int (x 19), .int (x 20), .int (x 21)]) := mO
  refine J_iconst (v := nI 0) dX9_save_5 (by decide) ?_
  refine J_istore_n dX9_save_6 rfl (by decide) rfl ?_
  exact copy 117 0 f3 _ (by omega) (by omega) mO mS m2 m3 m4 m5 m6 m7 m8 mF mK ((Fr.rf w m (m + 11)).up u1 (by omega) (by omega)) (fun j hj => by omega)

theorem rest_no {G : Gme} (h : gH G = false) : gRest G = (3, 0, G) := if_neg (by rw [h]; decide)
theorem rest_ok {G : Gme} (h : gH G = true) : gRest G = (0, nI (sNb (gV G)), ((gV G, gV G, gH G), (gP G, 0), G.2.2)) := if_pos h
theorem undo_no {G : Gme} (h : gC G = 0) : gUndo G = (3, 0, G) := if_pos h
theorem undo_ok {G : Gme} (h : ¬ gC G = 0) : gUndo G = (0, nI (gC G - 1), ((gP G (gC G - 1), gV G, gH G), (gP G, gC G - 1), G.2.2)) := if_neg h
theorem c_X9_restore {w : Wd} {m : Nat} {G : Gme} {th : Nat} (hM : RepM w m G th)  : MC 3 mX9_restore 0 0 [.ref m] w (GM w m [3] (gRest G)) := by
  obtain ⟨x, f2, f3, f4, f5, f6, f7, f8, hA, ⟨m2, m3, m4, m5, m6, m7, m8⟩, hx0, hRx, hRd⟩ := id hM
  obtain ⟨x6, x7, x13, x14, x15, x16⟩ := id hRx
  obtain ⟨hV, hP, hT, hO, ⟨hb8, hb60, hb14⟩, hE, hF⟩ := id hRd
  obtain ⟨f, g, h, mO, mS, mF, mK, hfit⟩ := id hA
  have hwf := hfit.2.2.2.2
  have hnb := hwf.nb
  have hnt := hwf.nt
  refine MC_j pnX9 rfl rfl rfl (Or.inr (fun E w h => RP_no E w h)) ?_
  show J 3 mX9_restore 0 [some (.ref m), none] [] w 0 0 _
  have next : gH G = true → ∀ fd w1 o1, w1.1 m = mCell m (va_up x 0 (nI 0)) → w1.1 (m + 1) = .inl (0, 116, .inl fd) → w1.1 (m + 2) = .inl (0, 116, .inl f2) → w1.1 (m + 3) = .inl (0, 116, .inl f3) → w1.1 (m + 4) = .inl (0, 928, .inl f4) → w1.1 (m + 5) = .inl (0, 116, .inl f5) → w1.1 (m + 6) = .inl (0, 60, .inl f6) → w1.1 (m + 7) = .inl (0, 180, .inl f7) → w1.1 (m + 8) = .inl (0, 40, .inl f8) → w1.1 (m + 9) = .inl (0, 14, .inl g) → w1.1 (m + 10) = .inl (0, 14, .inl h) → Fr w w1 m (m + 11) → (∀ j, j < 116 → fd j = f3 j) → J 3 mX9_restore 44 [some (.ref m), o1] [] w1 0 0 (GM w m [3] (gRest G)) := by
    intro hh fd w1 o1 mO mS m2 m3 m4 m5 m6 m7 m8 mF mK hFr hrow
    have hfv := fit_kept hV hrow
    have mO : w1.1 m = .inr (9, [.int (nI 0), .ref (m + 1), .ref (m + 2), .ref (m + 3), .ref (m + 4), .ref (m + 5), .int (x 6), .int (x 7), .ref (m + 6), .ref (m + 7), .ref (m + 8), .ref (m + 9), .ref (m + 10), .int (x 13), .int (x 14), .int (x 15), .int (x 16), .int (x 17), .int (x 18), .int (x 19), .int (x 20), .int (x 21)]) := mO
    refine J_aload_n dX9_restore_44 rfl rfl ?_
    refine J_iconst (v := nI 0) dX9_restore_45 (by decide) ?_
    refine K_putI dX9_restore_46 fX9_50 (Or.inl rfl) mO (Nat.le_of_ble_eq_true rfl) (fun w1 u1 => ?_)
    have m2 := (u1.2.1 _ (by omega)).trans m2
    have m3 := (u1.2.1 _ (by omega)).trans m3
    have m4 := (u1.2.1 _ (by omega)).trans m4
    have m5 := (u1.2.1 _ (by omega)).trans m5
    have m6 := (u1.2.1 _ (by omega)).trans m6
    have m7 := (u1.2.1 _ (by omega)).trans m7
    have m8 := (u1.2.1 _ (by omega)).trans m8
    have mF := (u1.2.1 _ (by omega)).trans mF
    have mK := (u1.2.1 _ (by omega)).trans mK
    have mO := u1.1
    have mS := (u1.2.1 _ (by omega)).trans mS
    have mO : w1.1 m = .inr (9, [.int (nI 0), .ref (m + 1), .ref (m + 2), .ref (m + 3), .ref (m + 4), .ref (m + 5), .int (nI 0), .int (x 7), .ref (m + 6), .ref (m + 7), .ref (m + 8), .ref (m + 9), .ref (m + 10), .int (x 13), .int (x 14), .int (x 15), .int (x 16), .int (x 17), .int (x 18), .int (x 19), .int (x 20), .int (x 21)]) := mO
    refine J_aload_n dX9_restore_49 rfl rfl ?_
    refine J_getfield dX9_restore_50 fX9_7 mO rfl ?_
    refine J_iconst (v := nI 0) dX9_restore_53 (by decide) ?_
    refine K_iald (v := nI (sNb (gV G))) dX9_restore_54 mS (by omega) (by decide) hfv.1.1 ?_
    exact J_ireturn dX9_restore_55 rfl rfl (GM_of (c := 0) (v := nI (sNb (gV G))) (G' := ((gV G, gV G, gH G), (gP G, 0), G.2.2)) (th := 0) (rest_ok hh) (fun _ => rfl) (hFr.up u1 (by omega) (by omega)) (by decide) ⟨va_up (va_up x 0 (nI 0)) 6 (nI 0), _, _, _, _, _, _, _, ⟨_, _, _, mO, mS, mF, mK, hfv⟩, ⟨m2, m3, m4, m5, m6, m7, m8⟩, ((up_n _ _ (by decide)).trans (up_s _ _ _)), ⟨(up_s _ _ _), ((up_n _ _ (by decide)).trans ((up_n _ _ (by decide)).trans x7)), ((up_n _ _ (by decide)).trans ((up_n _ _ (by decide)).trans x13)), ((up_n _ _ (by decide)).trans ((up_n _ _ (by decide)).trans x14)), ((up_n _ _ (by decide)).trans ((up_n _ _ (by decide)).trans x15)), ((up_n _ _ (by decide)).trans ((up_n _ _ (by decide)).trans x16))⟩, ⟨hV, (fun j hj => absurd hj (Nat.not_lt_zero j)), hT, hO, ⟨Nat.zero_le _, hb60, hb14⟩, hE, hF⟩⟩)
  have copy : gH G = true → ∀ n k fd w1, 116 < n + k → k ≤ 116 → w1.1 m = mCell m (va_up x 0 (nI 0)) → w1.1 (m + 1) = .inl (0, 116, .inl fd) → w1.1 (m + 2) = .inl (0, 116, .inl f2) → w1.1 (m + 3) = .inl (0, 116, .inl f3) → w1.1 (m + 4) = .inl (0, 928, .inl f4) → w1.1 (m + 5) = .inl (0, 116, .inl f5) → w1.1 (m + 6) = .inl (0, 60, .inl f6) → w1.1 (m + 7) = .inl (0, 180, .inl f7) → w1.1 (m + 8) = .inl (0, 40, .inl f8) → w1.1 (m + 9) = .inl (0, 14, .inl g) → w1.1 (m + 10) = .inl (0, 14, .inl h) → Fr w w1 m (m + 11) → (∀ j, j < k → fd j = f3 j) → J 3 mX9_restore 20 [some (.ref m), some (.int (nI k))] [] w1 0 0 (GM w m [3] (gRest G)) := by
    intro hh n
    induction n with
    | zero => intros; omega
    | succ n ih =>
      intro k fd w1 q1 q2 mO mS m2 m3 m4 m5 m6 m7 m8 mF mK hFr hrow
      have mO : w1.1 m = .inr (9, [.int (nI 0), .ref (m + 1), .ref (m + 2), .ref (m + 3), .ref (m + 4), .ref (m + 5), .int (x 6), .int (x 7), .ref (m + 6), .ref (m + 7), .ref (m + 8), .ref (m + 9), .ref (m + 10), .int (x 13), .int (x 14), .int (x 15), .int (x 16), .int (x 17), .int (x 18), .int (x 19), .int (x 20), .int (x 21)]) := mO
      refine J_iload_n dX9_restore_20 rfl rfl ?_
      refine J_bipush (v := nI 116) dX9_restore_21 (by decide) ?_
      refine J_icmp_ge (tgt := 44) dX9_restore_23 (by decide) (fun h23 => ?_) (fun h23 => ?_)
      · skip
        have h23 := (nI_leI (by omega) (by omega)).mp h23
        have ek : k = 116 := by omega
        exact next hh fd w1 _ mO mS m2 m3 m4 m5 m6 m7 m8 mF mK hFr (fun j hj => hrow j (by omega))
      · skip
        have h23 := mt (nI_leI (by omega) (by omega)).mpr h23
        refine J_aload_n dX9_restore_26 rfl rfl ?_
        refine J_getfield dX9_restore_27 fX9_7 mO rfl ?_
        refine J_iload_n dX9_restore_30 rfl rfl ?_
        refine J_aload_n dX9_restore_31 rfl rfl ?_
        refine J_getfield dX9_restore_32 fX9_16 mO rfl ?_
        refine J_iload_n dX9_restore_35 rfl rfl ?_
        refine K_iald (v := f3 k) dX9_restore_36 m3 (by omega) (by decide) rfl ?_
        refine K_iast dX9_restore_37 mS (by omega) (by decide) (fun w1 u1 => ?_)
        have m2 := (u1.2.1 _ (by omega)).trans m2
        have m3 := (u1.2.1 _ (by omega)).trans m3
        have m4 := (u1.2.1 _ (by omega)).trans m4
        have m5 := (u1.2.1 _ (by omega)).trans m5
        have m6 := (u1.2.1 _ (by omega)).trans m6
        have m7 := (u1.2.1 _ (by omega)).trans m7
        have m8 := (u1.2.1 _ (by omega)).trans m8
        have mF := (u1.2.1 _ (by omega)).trans mF
        have mK := (u1.2.1 _ (by omega)).trans mK
        have mO := (u1.2.1 _ (by omega)).trans mO
        have mS := u1.1
        refine J_iinc (v := nI (k + 1)) dX9_restore_38 rfl (nI_succ _).symm (by decide) rfl ?_
        refine J_goto (tgt := 20) dX9_restore_41 (by decide) ?_
        exact ih (k + 1) _ _ (by omega) (by omega) mO mS m2 m3 m4 m5 m6 m7 m8 mF mK (hFr.up u1 (by omega) (by omega)) (fun j hj => by
          by_cases e : j = k
          · subst e; rw [up_s]
          · rw [up_n _ _ e]; exact hrow j (by omega))
  refine J_aload_n dX9_restore_0 rfl rfl ?_
  refine J_iconst (v := nI 0) dX9_restore_1 (by decide) ?_
  refine K_putI dX9_restore_2 fX9_47 (Or.inl rfl) mO (Nat.le_of_ble_eq_true rfl) (fun w1 u1 => ?_)
  have m2 := (u1.2.1 _ (by omega)).trans m2
  have m3 := (u1.2.1 _ (by omega)).trans m3
  have m4 := (u1.2.1 _ (by omega)).trans m4
  have m5 := (u1.2.1 _ (by omega)).trans m5
  have m6 := (u1.2.1 _ (by omega)).trans m6
  have m7 := (u1.2.1 _ (by omega)).trans m7
  have m8 := (u1.2.1 _ (by omega)).trans m8
  have mF := (u1.2.1 _ (by omega)).trans mF
  have mK := (u1.2.1 _ (by omega)).trans mK
  have mO := u1.1
  have mS := (u1.2.1 _ (by omega)).trans mS
  have mO : w1.1 m = .inr (9, [.int (nI 0), .ref (m + 1), .ref (m + 2), .ref (m + 3), .ref (m + 4), .ref (m + 5), .int (x 6), .int (x 7), .ref (m + 6), .ref (m + 7), .ref (m + 8), .ref (m + 9), .ref (m + 10), .int (x 13), .int (x 14), .int (x 15), .int (x 16), .int (x 17), .int (x 18), .int (x 19), .int (x 20), .int (x 21)]) := mO
  refine J_aload_n dX9_restore_5 rfl rfl ?_
  refine J_getfield dX9_restore_6 fX9_275 mO rfl ?_
  rw [x7]
  refine J_if_ne (tgt := 18) dX9_restore_9 (by decide) (fun h9 => ?_) (fun h9 => ?_)
  · skip
    have e9 : gH G = true := b2i_ne.mp h9
    refine J_iconst (v := nI 0) dX9_restore_18 (by decide) ?_
    refine J_istore_n dX9_restore_19 rfl (by decide) rfl ?_
    exact copy e9 117 0 f _ (by omega) (by omega) mO mS m2 m3 m4 m5 m6 m7 m8 mF mK ((Fr.rf w m (m + 11)).up u1 (by omega) (by omega)) (fun j hj => by omega)
  · skip
    have e9 : gH G = false := b2i_eq.mp h9
    refine J_aload_n dX9_restore_12 rfl rfl ?_
    refine J_iconst (v := nI 1) dX9_restore_13 (by decide) ?_
    refine K_callVp dX9_restore_14 YX9_fails kX9_60 (rc_of mO rfl) (c_X9_fails (x := va_up x 0 (nI 0)) mO _) rfl rfl (Nat.le_of_ble_eq_true rfl) (by decide) (fun v14 w14 q14 => ?_)
    obtain ⟨rfl, u14⟩ := q14
    have mO : w14.1 m = .inr (9, [.int (nI 1), .ref (m + 1), .ref (m + 2), .ref (m + 3), .ref (m + 4), .ref (m + 5), .int (x 6), .int (x 7), .ref (m + 6), .ref (m + 7), .ref (m + 8), .ref (m + 9), .ref (m + 10), .int (x 13), .int (x 14), .int (x 15), .int (x 16), .int (x 17), .int (x 18), .int (x 19), .int (x 20), .int (x 21)]) := u14.1
    have mS := (u14.2.1 _ (by omega)).trans mS
    have mF := (u14.2.1 _ (by omega)).trans mF
    have mK := (u14.2.1 _ (by omega)).trans mK
    have m2 := (u14.2.1 _ (by omega)).trans m2
    have m3 := (u14.2.1 _ (by omega)).trans m3
    have m4 := (u14.2.1 _ (by omega)).trans m4
    have m5 := (u14.2.1 _ (by omega)).trans m5
    have m6 := (u14.2.1 _ (by omega)).trans m6
    have m7 := (u14.2.1 _ (by omega)).trans m7
    have m8 := (u14.2.1 _ (by omega)).trans m8
    exact J_ireturn dX9_restore_17 rfl rfl (GM_of (c := 3) (v := 0) (G' := G) (th := 1) (rest_no e9) (fun z => absurd z (by decide)) (((Fr.rf w m (m + 11)).up u1 (by omega) (by omega)).up u14 (by omega) (by omega)) (by decide) ⟨va_up x 0 (nI 1), _, _, _, _, _, _, _, ⟨_, _, _, mO, mS, mF, mK, hfit⟩, ⟨m2, m3, m4, m5, m6, m7, m8⟩, (up_s _ _ _), ⟨((up_n _ _ (by decide)).trans x6), ((up_n _ _ (by decide)).trans x7), ((up_n _ _ (by decide)).trans x13), ((up_n _ _ (by decide)).trans x14), ((up_n _ _ (by decide)).trans x15), ((up_n _ _ (by decide)).trans x16)⟩, hRd⟩)

theorem c_X9_undo {w : Wd} {m : Nat} {G : Gme} {th : Nat} (hM : RepM w m G th)  : MC 3 mX9_undo 0 0 [.ref m] w (GM w m [3] (gUndo G)) := by
  obtain ⟨x, f2, f3, f4, f5, f6, f7, f8, hA, ⟨m2, m3, m4, m5, m6, m7, m8⟩, hx0, hRx, hRd⟩ := id hM
  obtain ⟨x6, x7, x13, x14, x15, x16⟩ := id hRx
  obtain ⟨hV, hP, hT, hO, ⟨hb8, hb60, hb14⟩, hE, hF⟩ := id hRd
  obtain ⟨f, g, h, mO, mS, mF, mK, hfit⟩ := id hA
  have hwf := hfit.2.2.2.2
  have hnb := hwf.nb
  have hnt := hwf.nt
  refine MC_j pnX9 rfl rfl rfl (Or.inr (fun E w h => RP_no E w h)) ?_
  show J 3 mX9_undo 0 [some (.ref m), none] [] w 0 0 _
  have next : ¬ gC G = 0 → ∀ fd w1 o1, w1.1 m = mCell m (va_up (va_up x 0 (nI 0)) 6 (nI (gC G - 1))) → w1.1 (m + 1) = .inl (0, 116, .inl fd) → w1.1 (m + 2) = .inl (0, 116, .inl f2) → w1.1 (m + 3) = .inl (0, 116, .inl f3) → w1.1 (m + 4) = .inl (0, 928, .inl f4) → w1.1 (m + 5) = .inl (0, 116, .inl f5) → w1.1 (m + 6) = .inl (0, 60, .inl f6) → w1.1 (m + 7) = .inl (0, 180, .inl f7) → w1.1 (m + 8) = .inl (0, 40, .inl f8) → w1.1 (m + 9) = .inl (0, 14, .inl g) → w1.1 (m + 10) = .inl (0, 14, .inl h) → Fr w w1 m (m + 11) → (∀ j, j < 116 → fd j = f4 (116 * (gC G - 1) + j)) → J 3 mX9_undo 62 [some (.ref m), o1] [] w1 0 0 (GM w m [3] (gUndo G)) := by
    intro hc0 fd w1 o1 mO mS m2 m3 m4 m5 m6 m7 m8 mF mK hFr hrow
    have hfu := fit_kept (hP (gC G - 1) (by omega)) (f' := fd) hrow
    have mO : w1.1 m = .inr (9, [.int (nI 0), .ref (m + 1), .ref (m + 2), .ref (m + 3), .ref (m + 4), .ref (m + 5), .int (nI (gC G - 1)), .int (x 7), .ref (m + 6), .ref (m + 7), .ref (m + 8), .ref (m + 9), .ref (m + 10), .int (x 13), .int (x 14), .int (x 15), .int (x 16), .int (x 17), .int (x 18), .int (x 19), .int (x 20), .int (x 21)]) := mO
    refine J_aload_n dX9_undo_62 rfl rfl ?_
    refine J_getfield dX9_undo_63 fX9_50 mO rfl ?_
    exact J_ireturn dX9_undo_66 rfl rfl (GM_of (c := 0) (v := nI (gC G - 1)) (G' := ((gP G (gC G - 1), gV G, gH G), (gP G, gC G - 1), G.2.2)) (th := 0) (undo_ok hc0) (fun _ => rfl) hFr (by decide) ⟨va_up (va_up x 0 (nI 0)) 6 (nI (gC G - 1)), _, _, _, _, _, _, _, ⟨_, _, _, mO, mS, mF, mK, hfu⟩, ⟨m2, m3, m4, m5, m6, m7, m8⟩, ((up_n _ _ (by decide)).trans (up_s _ _ _)), ⟨(up_s _ _ _), ((up_n _ _ (by decide)).trans ((up_n _ _ (by decide)).trans x7)), ((up_n _ _ (by decide)).trans ((up_n _ _ (by decide)).trans x13)), ((up_n _ _ (by decide)).trans ((up_n _ _ (by decide)).trans x14)), ((up_n _ _ (by decide)).trans ((up_n _ _ (by decide)).trans x15)), ((up_n _ _ (by decide)).trans ((up_n _ _ (by decide)).trans x16))⟩, ⟨hV, (fun j hj => hP j (by have hj : j < gC G - 1 := hj; omega)), hT, hO, ⟨by show gC G - 1 ≤ 8; omega, hb60, hb14⟩, hE, hF⟩⟩)
  have copy : ¬ gC G = 0 → ∀ n k fd w1, 116 < n + k → k ≤ 116 → w1.1 m = mCell m (va_up (va_up x 0 (nI 0)) 6 (nI (gC G - 1))) → w1.1 (m + 1) = .inl (0, 116, .inl fd) → w1.1 (m + 2) = .inl (0, 116, .inl f2) → w1.1 (m + 3) = .inl (0, 116, .inl f3) → w1.1 (m + 4) = .inl (0, 928, .inl f4) → w1.1 (m + 5) = .inl (0, 116, .inl f5) → w1.1 (m + 6) = .inl (0, 60, .inl f6) → w1.1 (m + 7) = .inl (0, 180, .inl f7) → w1.1 (m + 8) = .inl (0, 40, .inl f8) → w1.1 (m + 9) = .inl (0, 14, .inl g) → w1.1 (m + 10) = .inl (0, 14, .inl h) → Fr w w1 m (m + 11) → (∀ j, j < k → fd j = f4 (116 * (gC G - 1) + j)) → J 3 mX9_undo 30 [some (.ref m), some (.int (nI k))] [] w1 0 0 (GM w m [3] (gUndo G)) := by
    intro hc0 n
    induction n with
    | zero => intros; omega
    | succ n ih =>
      intro k fd w1 q1 q2 mO mS m2 m3 m4 m5 m6 m7 m8 mF mK hFr hrow
      have mO : w1.1 m = .inr (9, [.int (nI 0), .ref (m + 1), .ref (m + 2), .ref (m + 3), .ref (m + 4), .ref (m + 5), .int (nI (gC G - 1)), .int (x 7), .ref (m + 6), .ref (m + 7), .ref (m + 8), .ref (m + 9), .ref (m + 10), .int (x 13), .int (x 14), .int (x 15), .int (x 16), .int (x 17), .int (x 18), .int (x 19), .int (x 20), .int (x 21)]) := mO
      refine J_iload_n dX9_undo_30 rfl rfl ?_
      refine J_bipush (v := nI 116) dX9_undo_31 (by decide) ?_
      refine J_icmp_ge (tgt := 62) dX9_undo_33 (by decide) (fun h33 => ?_) (fun h33 => ?_)
      · skip
        have h33 := (nI_leI (by omega) (by omega)).mp h33
        have ek : k = 116 := by omega
        exact next hc0 fd w1 _ mO mS m2 m3 m4 m5 m6 m7 m8 mF mK hFr (fun j hj => hrow j (by omega))
      · skip
        have h33 := mt (nI_leI (by omega) (by omega)).mpr h33
        refine J_aload_n dX9_undo_36 rfl rfl ?_
        refine J_getfield dX9_undo_37 fX9_7 mO rfl ?_
        refine J_iload_n dX9_undo_40 rfl rfl ?_
        refine J_aload_n dX9_undo_41 rfl rfl ?_
        refine J_getfield dX9_undo_42 fX9_19 mO rfl ?_
        refine J_bipush (v := nI 116) dX9_undo_45 (by decide) ?_
        refine J_aload_n dX9_undo_47 rfl rfl ?_
        refine J_getfield dX9_undo_48 fX9_50 mO rfl ?_
        refine K_imul (v := nI (116 * (gC G - 1))) dX9_undo_51 (nI_mul _ _) ?_
        refine J_iload_n dX9_undo_52 rfl rfl ?_
        refine K_iadd (v := nI (116 * (gC G - 1) + k)) dX9_undo_53 (nI_add _ _) ?_
        refine K_iald (v := f4 (116 * (gC G - 1) + k)) dX9_undo_54 m4 (by omega) (by decide) rfl ?_
        refine K_iast dX9_undo_55 mS (by omega) (by decide) (fun w1 u1 => ?_)
        have m2 := (u1.2.1 _ (by omega)).trans m2
        have m3 := (u1.2.1 _ (by omega)).trans m3
        have m4 := (u1.2.1 _ (by omega)).trans m4
        have m5 := (u1.2.1 _ (by omega)).trans m5
        have m6 := (u1.2.1 _ (by omega)).trans m6
        have m7 := (u1.2.1 _ (by omega)).trans m7
        have m8 := (u1.2.1 _ (by omega)).trans m8
        have mF := (u1.2.1 _ (by omega)).trans mF
        have mK := (u1.2.1 _ (by omega)).trans mK
        have mO := (u1.2.1 _ (by omega)).trans mO
        have mS := u1.1
        refine J_iinc (v := nI (k + 1)) dX9_undo_56 rfl (nI_succ _).symm (by decide) rfl ?_
        refine J_goto (tgt := 30) dX9_undo_59 (by decide) ?_
        exact ih (k + 1) _ _ (by omega) (by omega) mO mS m2 m3 m4 m5 m6 m7 m8 mF mK (hFr.up u1 (by omega) (by omega)) (fun j hj => by
          by_cases e : j = k
          · subst e; rw [up_s]
          · rw [up_n _ _ e]; exact hrow j (by omega))
  refine J_aload_n dX9_undo_0 rfl rfl ?_
  refine J_iconst (v := nI 0) dX9_undo_1 (by decide) ?_
  refine K_putI dX9_undo_2 fX9_47 (Or.inl rfl) mO (Nat.le_of_ble_eq_true rfl) (fun w1 u1 => ?_)
  have m2 := (u1.2.1 _ (by omega)).trans m2
  have m3 := (u1.2.1 _ (by omega)).trans m3
  have m4 := (u1.2.1 _ (by omega)).trans m4
  have m5 := (u1.2.1 _ (by omega)).trans m5
  have m6 := (u1.2.1 _ (by omega)).trans m6
  have m7 := (u1.2.1 _ (by omega)).trans m7
  have m8 := (u1.2.1 _ (by omega)).trans m8
  have mF := (u1.2.1 _ (by omega)).trans mF
  have mK := (u1.2.1 _ (by omega)).trans mK
  have mO := u1.1
  have mS := (u1.2.1 _ (by omega)).trans mS
  have mO : w1.1 m = .inr (9, [.int (nI 0), .ref (m + 1), .ref (m + 2), .ref (m + 3), .ref (m + 4), .ref (m + 5), .int (x 6), .int (x 7), .ref (m + 6), .ref (m + 7), .ref (m + 8), .ref (m + 9), .ref (m + 10), .int (x 13), .int (x 14), .int (x 15), .int (x 16), .int (x 17), .int (x 18), .int (x 19), .int (x 20), .int (x 21)]) := mO
  refine J_aload_n dX9_undo_5 rfl rfl ?_
  refine J_getfield dX9_undo_6 fX9_50 mO rfl ?_
  rw [x6]
  refine J_if_ne (tgt := 18) dX9_undo_9 (by decide) (fun h9 => ?_) (fun h9 => ?_)
  · skip
    have h9 := mt (nI_eq (b := 0) (by omega) (by omega)).mpr h9
    refine J_aload_n dX9_undo_18 rfl rfl ?_
    refine J_dup dX9_undo_19 rfl ?_
    refine J_getfield dX9_undo_20 fX9_50 mO rfl ?_
    rw [x6]
    refine J_iconst (v := nI 1) dX9_undo_23 (by decide) ?_
    refine K_isub (v := nI (gC G - 1)) dX9_undo_24 (nI_sub (by omega)) ?_
    refine K_putI dX9_undo_25 fX9_50 (Or.inl rfl) mO (Nat.le_of_ble_eq_true rfl) (fun w2 u2 => ?_)
    have m2 := (u2.2.1 _ (by omega)).trans m2
    have m3 := (u2.2.1 _ (by omega)).trans m3
    have m4 := (u2.2.1 _ (by omega)).trans m4
    have m5 := (u2.2.1 _ (by omega)).trans m5
    have m6 := (u2.2.1 _ (by omega)).trans m6
    have m7 := (u2.2.1 _ (by omega)).trans m7
    have m8 := (u2.2.1 _ (by omega)).trans m8
    have mF := (u2.2.1 _ (by omega)).trans mF
    have mK := (u2.2.1 _ (by omega)).trans mK
    have mO := u2.1
    have mS := (u2.2.1 _ (by omega)).trans mS
    have mO : w2.1 m = .inr (9, [.int (nI 0), .ref (m + 1), .ref (m + 2), .ref (m + 3), .ref (m + 4), .ref (m + 5), .int (nI (gC G - 1)), .int (x 7), .ref (m + 6), .ref (m + 7), .ref (m + 8), .ref (m + 9), .ref (m + 10), .int (x 13), .int (x 14), .int (x 15), .int (x 16), .int (x 17), .int (x 18), .int (x 19), .int (x 20), .int (x 21)]) := mO
    refine J_iconst (v := nI 0) dX9_undo_28 (by decide) ?_
    refine J_istore_n dX9_undo_29 rfl (by decide) rfl ?_
    exact copy h9 117 0 f _ (by omega) (by omega) mO mS m2 m3 m4 m5 m6 m7 m8 mF mK (((Fr.rf w m (m + 11)).up u1 (by omega) (by omega)).up u2 (by omega) (by omega)) (fun j hj => by omega)
  · skip
    have h9 := (nI_eq (b := 0) (by omega) (by omega)).mp h9
    refine J_aload_n dX9_undo_12 rfl rfl ?_
    refine J_iconst (v := nI 1) dX9_undo_13 (by decide) ?_
    refine K_callVp dX9_undo_14 YX9_fails kX9_60 (rc_of mO rfl) (c_X9_fails (x := va_up x 0 (nI 0)) mO _) rfl rfl (Nat.le_of_ble_eq_true rfl) (by decide) (fun v14 w14 q14 => ?_)
    obtain ⟨rfl, u14⟩ := q14
    have mO : w14.1 m = .inr (9, [.int (nI 1), .ref (m + 1), .ref (m + 2), .ref (m + 3), .ref (m + 4), .ref (m + 5), .int (x 6), .int (x 7), .ref (m + 6), .ref (m + 7), .ref (m + 8), .ref (m + 9), .ref (m + 10), .int (x 13), .int (x 14), .int (x 15), .int (x 16), .int (x 17), .int (x 18), .int (x 19), .int (x 20), .int (x 21)]) := u14.1
    have mS := (u14.2.1 _ (by omega)).trans mS
    have mF := (u14.2.1 _ (by omega)).trans mF
    have mK := (u14.2.1 _ (by omega)).trans mK
    have m2 := (u14.2.1 _ (by omega)).trans m2
    have m3 := (u14.2.1 _ (by omega)).trans m3
    have m4 := (u14.2.1 _ (by omega)).trans m4
    have m5 := (u14.2.1 _ (by omega)).trans m5
    have m6 := (u14.2.1 _ (by omega)).trans m6
    have m7 := (u14.2.1 _ (by omega)).trans m7
    have m8 := (u14.2.1 _ (by omega)).trans m8
    exact J_ireturn dX9_undo_17 rfl rfl (GM_of (c := 3) (v := 0) (G' := G) (th := 1) (undo_no h9) (fun z => absurd z (by decide)) (((Fr.rf w m (m + 11)).up u1 (by omega) (by omega)).up u14 (by omega) (by omega)) (by decide) ⟨va_up x 0 (nI 1), _, _, _, _, _, _, _, ⟨_, _, _, mO, mS, mF, mK, hfit⟩, ⟨m2, m3, m4, m5, m6, m7, m8⟩, (up_s _ _ _), ⟨((up_n _ _ (by decide)).trans x6), ((up_n _ _ (by decide)).trans x7), ((up_n _ _ (by decide)).trans x13), ((up_n _ _ (by decide)).trans x14), ((up_n _ _ (by decide)).trans x15), ((up_n _ _ (by decide)).trans x16)⟩, hRd⟩)

end JMIO

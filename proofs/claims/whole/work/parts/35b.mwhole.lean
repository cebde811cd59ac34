/-! THE MODEL WHOLE -/
section JMWHOLE
theorem c_X9_remembers {w : Wd} {m : Nat} {G : Gme} {th : Nat} (hM : RepM w m G th) : MC 2 mX9_remembers 0 0 [.ref m] w (RP (fun v w' => v = none ∧ Fr w w' m (m + 11) ∧ ∃ x', RepI w' m x' G (gS G))) := by
  obtain ⟨x, f2, f3, f4, f5, f6, f7, f8, hA, ⟨m2, m3, m4, m5, m6, m7, m8⟩, hx0, hRx, hRd⟩ := id hM
  obtain ⟨x6, x7, x13, x14, x15, x16⟩ := id hRx
  obtain ⟨hV, hP, hT, hO, ⟨hb8, hb60, hb14⟩, hE, hF⟩ := id hRd
  obtain ⟨f, g, h, mO, mS, mF, mK, hfit⟩ := id hA
  have hwf := hfit.2.2.2.2
  have hnb := hwf.nb
  have hnt := hwf.nt
  refine MC_j pnX9 rfl rfl rfl (Or.inr (fun E w h => RP_no E w h)) ?_
  show J 2 mX9_remembers 0 [some (.ref m), none] [] w 0 0 _
  have next : ∀ o1 fd w1, w1.1 m = mCell m (va_up x 0 (nI 0)) → w1.1 (m + 1) = .inl (0, 116, .inl f) → w1.1 (m + 2) = .inl (0, 116, .inl fd) → (∀ j, j < 116 → fd j = f j) → (Fr w w1 m (m + 3)) → J 2 mX9_remembers 31 [some (.ref m), o1] [] w1 0 0 (RP (fun v w' => v = none ∧ Fr w w' m (m + 11) ∧ ∃ x', RepI w' m x' G (gS G))) := by
    intro o1 fd w1 mO mR mD hrow hFr
    exact J_return dX9_remembers_31 rfl (RP_i ⟨rfl, hFr.wd (by omega) (by omega), _, fd, f3, f4, f5, f6, f7, f8, ⟨f, g, h, mO, mR, (hFr.1 _ (by omega)).trans mF, (hFr.1 _ (by omega)).trans mK, hfit⟩, ⟨mD, (hFr.1 _ (by omega)).trans m3, (hFr.1 _ (by omega)).trans m4, (hFr.1 _ (by omega)).trans m5, (hFr.1 _ (by omega)).trans m6, (hFr.1 _ (by omega)).trans m7, (hFr.1 _ (by omega)).trans m8⟩, fit_kept hfit hrow, up_s _ _ _, hRx.of (fun j h1 _ _ _ _ _ => up_n _ _ h1), hRd⟩)
  have loop : ∀ n k fd w1, 116 < n + k → k ≤ 116 → w1.1 m = mCell m (va_up x 0 (nI 0)) → w1.1 (m + 1) = .inl (0, 116, .inl f) → w1.1 (m + 2) = .inl (0, 116, .inl fd) → (∀ j, j < k → fd j = f j) → Fr w w1 m (m + 3) → J 2 mX9_remembers 7 [some (.ref m), some (.int (nI k))] [] w1 0 0 (RP (fun v w' => v = none ∧ Fr w w' m (m + 11) ∧ ∃ x', RepI w' m x' G (gS G))) := by
    intro n
    induction n with
    | zero => intros; omega
    | succ n ih =>
      intro k fd w1 q1 q2 mO mR mD hrow hFr
      refine J_iload_n dX9_remembers_7 rfl rfl ?_
      refine J_bipush (v := nI 116) dX9_remembers_8 (by decide) ?_
      refine J_icmp_ge (tgt := 31) dX9_remembers_10 (by decide) (fun h10 => ?_) (fun h10 => ?_)
      · skip
        have h10 := (nI_leI (by omega) (by omega)).mp h10
        have ek : k = 116 := by omega
        exact next _ _ _ mO mR mD (fun j hj => hrow j (by omega)) hFr
      · skip
        have h10 := mt (nI_leI (by omega) (by omega)).mpr h10
        refine J_aload_n dX9_remembers_13 rfl rfl ?_
        refine J_getfield dX9_remembers_14 fX9_13 mO rfl ?_
        refine J_iload_n dX9_remembers_17 rfl rfl ?_
        refine J_aload_n dX9_remembers_18 rfl rfl ?_
        refine J_getfield dX9_remembers_19 fX9_7 mO rfl ?_
        refine J_iload_n dX9_remembers_22 rfl rfl ?_
        refine K_iald (v := f k) dX9_remembers_23 mR (by omega) (by decide) rfl ?_
        refine K_iast dX9_remembers_24 mD (by omega) (by decide) (fun w1 u1 => ?_)
        have mD := u1.1
        have mO := (u1.2.1 _ (by omega)).trans mO
        have mR := (u1.2.1 _ (by omega)).trans mR
        refine J_iinc (v := nI (k + 1)) dX9_remembers_25 rfl (nI_succ _).symm (by decide) rfl ?_
        refine J_goto (tgt := 7) dX9_remembers_28 (by decide) ?_
        exact ih (k + 1) _ _ (by omega) (by omega) mO mR mD (fun j hj => by
          by_cases e : j = k
          · subst e; rw [up_s]
          · rw [up_n _ _ e]; exact hrow j (by omega)) (hFr.up u1 (by omega) (by omega))
  refine J_aload_n dX9_remembers_0 rfl rfl ?_
  refine J_iconst (v := nI 0) dX9_remembers_1 (by decide) ?_
  refine K_putI dX9_remembers_2 fX9_47 (Or.inl rfl) mO (Nat.le_of_ble_eq_true rfl) (fun w1 u1 => ?_)
  have m2 := (u1.2.1 _ (by omega)).trans m2
  have m3 := (u1.2.1 _ (by omega)).trans m3
  have m4 := (u1.2.1 _ (by omega)).trans m4
  have m5 := (u1.2.1 _ (by omega)).trans m5
  have m6 := (u1.2.1 _ (by omega)).trans m6
  have m7 := (u1.2.1 _ (by omega)).trans m7
  have m8 := (u1.2.1 _ (by omega)).trans m8
  have mF := (u1.2.1 _ (by omega)).trans mF
  have mK := (u1.2.1 _ (by omega)).trans mK
  have mO := u1.1
  have mS := (u1.2.1 _ (by omega)).trans mS
  have mO : w1.1 m = .inr (9, [.int (nI 0), .ref (m + 1), .ref (m + 2), .ref (m + 3), .ref (m + 4), .ref (m + 5), .int (x 6), .int (x 7), .ref (m + 6), .ref (m + 7), .ref (m + 8), .ref (m + 9), .ref (m + 10), .int (x 13), .int (x 14), .int (x 15), .int (x 16), .int (x 17), .int (x 18), .int (x 19), .int (x 20), .int (x 21)]) := mO
  refine J_iconst (v := nI 0) dX9_remembers_5 (by decide) ?_
  refine J_istore_n dX9_remembers_6 rfl (by decide) rfl ?_
  exact loop 117 0 _ _ (by omega) (by omega) mO mS m2 (fun j hj => by omega) ((Fr.rf w m (m + 3)).up u1 (by omega) (by omega))

end JMWHOLE

/-! THE MODEL: its ticks -/
section JMTICK
theorem oTick_v {S : St} {y : Int32} (h : nI 1 ≤ y ∧ y ≤ nI 50) : ∃ c, 1 ≤ c ∧ c ≤ 50 ∧ y = nI c := v50_is (Int32.not_lt.mpr h.1) (Int32.not_lt.mpr h.2)
theorem c_X9_passes {w : Wd} {m : Nat} {x : Nat → Int32} {S : St} (hA : MA w m x S) (y : Int32) : MC 7 mX9_passes 0 0 [.ref m, .int y] w (MCh w m x [2] (oTick S y)) := by
  obtain ⟨f, g, h, mO, mS, mF, mK, hfit⟩ := id hA
  have hwf := hfit.2.2.2.2
  have hnb := hwf.nb
  have hnt := hwf.nt
  refine MC_j pnX9 rfl rfl rfl (Or.inr (fun E w h => RP_no E w h)) ?_
  show J 7 mX9_passes 0 [some (.ref m), some (.int y), none, none, none] [] w 0 0 _
  have loop : ∀ c, 1 ≤ c → c ≤ 50 → ∀ n k w1 o3, c < n + k → k ≤ c → MA w1 m x (ticksN k S) → FA w w1 m → J 7 mX9_passes 24 [some (.ref m), some (.int (nI c)), some (.int (sAr S)), o3, some (.int (nI k))] [] w1 0 0 (MCh w m x [2] (oTick S (nI c))) := by
    intro c hc1 hc2 n
    induction n with
    | zero => intros; omega
    | succ n ih =>
      intro k w1 o3 q1 q2 hA1 hFr
      obtain ⟨f, g, h, mO, mS, mF, mK, hfit⟩ := id hA1
      have hwf := hfit.2.2.2.2
      refine J_iload dX9_passes_24 rfl ?_
      refine J_iload_n dX9_passes_26 rfl rfl ?_
      refine J_icmp_ge (tgt := 41) dX9_passes_27 (by decide) (fun h27 => ?_) (fun h27 => ?_)
      · skip
        have h27 := (nI_leI (by omega) (by omega)).mp h27
        have ek : k = c := by omega
        subst ek
        refine J_aload_n dX9_passes_41 rfl rfl ?_
        refine J_aload_n dX9_passes_42 rfl rfl ?_
        refine J_getfield dX9_passes_43 fX9_7 mO rfl ?_
        refine J_iconst (v := nI 3) dX9_passes_46 (by decide) ?_
        refine K_iald (v := sAr (ticksN k S)) dX9_passes_47 mS (by omega) (by decide) hfit.1.2.2.2 ?_
        refine J_iload_n dX9_passes_48 rfl rfl ?_
        refine K_isub (v := sAr (ticksN k S) - sAr S) dX9_passes_49 rfl ?_
        refine K_callVp dX9_passes_50 YX9_done kX9_88 (rc_of mO rfl) (c_X9_done mO _) rfl rfl (Nat.le_of_ble_eq_true rfl) (by decide) (fun v50 w50 q50 => ?_)
        obtain ⟨rfl, u50⟩ := q50
        exact J_ireturn dX9_passes_53 rfl rfl (MCh_ok (S' := ticksN k S) (y := sAr (ticksN k S) - sAr S) (oTick_is hc1 hc2) ⟨_, _, _, u50.1, (u50.2.1 _ (by omega)).trans mS, (u50.2.1 _ (by omega)).trans mF, (u50.2.1 _ (by omega)).trans mK, hfit⟩ (hFr.up u50 (by omega) (by omega)))
      · skip
        have h27 := mt (nI_leI (by omega) (by omega)).mpr h27
        refine J_aload_n dX9_passes_30 rfl rfl ?_
        refine K_callVp dX9_passes_31 YX9_oneTick kX9_124 (rc_of mO rfl) (c_X9_oneTick hA1) rfl rfl (Nat.le_of_ble_eq_true rfl) (by decide) (fun v31 w31 q31 => ?_)
        obtain ⟨hF31, hA31, y31, p31, rfl, -, -⟩ := q31
        refine J_istore_n dX9_passes_34 rfl (by decide) rfl ?_
        refine J_iinc (v := nI (k + 1)) dX9_passes_35 rfl (nI_succ _).symm (by decide) rfl ?_
        refine J_goto (tgt := 24) dX9_passes_38 (by decide) ?_
        exact ih (k + 1) _ _ (by omega) (by omega) hA31 (hFr.trA hF31)
  refine J_iload_n dX9_passes_0 rfl rfl ?_
  refine J_iconst (v := nI 1) dX9_passes_1 (by decide) ?_
  refine J_bipush (v := nI 50) dX9_passes_2 (by decide) ?_
  refine K_callS dX9_passes_4 YX9_in kX9_63 (c_X9_in y (nI 1) (nI 50)) rfl rfl (Nat.le_of_ble_eq_true rfl) (by decide) ?_
  refine J_if_ne (tgt := 12) dX9_passes_7 (by decide) (fun h7 => ?_) (fun h7 => ?_)
  · skip
    have e7 : decide (nI 1 ≤ y ∧ y ≤ nI 50) = true := b2i_ne.mp h7
    obtain ⟨c, hc1, hc2, rfl⟩ := oTick_v (S := S) (of_decide_eq_true e7)
    refine J_aload_n dX9_passes_12 rfl rfl ?_
    refine J_getfield dX9_passes_13 fX9_7 mO rfl ?_
    refine J_iconst (v := nI 3) dX9_passes_16 (by decide) ?_
    refine K_iald (v := sAr S) dX9_passes_17 mS (by omega) (by decide) hfit.1.2.2.2 ?_
    refine J_istore_n dX9_passes_18 rfl (by decide) rfl ?_
    refine J_iconst (v := nI 0) dX9_passes_19 (by decide) ?_
    refine J_istore_n dX9_passes_20 rfl (by decide) rfl ?_
    refine J_iconst (v := nI 0) dX9_passes_21 (by decide) ?_
    refine J_istore dX9_passes_22 (by decide) rfl ?_
    exact loop c hc1 hc2 (c + 1) 0 w _ (by omega) (by omega) hA (FA.rf _ _)
  · skip
    have e7 : decide (nI 1 ≤ y ∧ y ≤ nI 50) = false := b2i_eq.mp h7
    have ev := oTick_no (S := S) (show y < nI 1 ∨ nI 50 < y from by
      have := of_decide_eq_false e7
      rw [← Int32.not_le, ← Int32.not_le]
      exact Classical.not_and_iff_not_or_not.mp this)
    refine J_iconst (v := nI 1) dX9_passes_10 (by decide) ?_
    exact J_ireturn dX9_passes_11 rfl rfl (MCh_no (l := [2]) hA (FA.rf _ _) (c := 1) ev rfl)

end JMTICK

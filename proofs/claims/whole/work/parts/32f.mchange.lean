/-! THE MODEL: what changes its railway -/
section JMCHANGE
theorem c_X9_frees {w : Wd} {m : Nat} {x : Nat → Int32} {S : St} (hA : MA w m x S) (y : Int32) : MC 5 mX9_frees 0 0 [.ref m, .int y] w (MCh w m x [1, 5] (oFree S y)) := by
  obtain ⟨f, g, h, mO, mS, mF, mK, hfit⟩ := id hA
  have hwf := hfit.2.2.2.2
  have hnb := hwf.nb
  have hnt := hwf.nt
  refine MC_j pnX9 rfl rfl rfl (Or.inr (fun E w h => RP_no E w h)) ?_
  show J 5 mX9_frees 0 [some (.ref m), some (.int y), none] [] w 0 0 _
  refine J_aload_n dX9_frees_0 rfl rfl ?_
  refine J_iload_n dX9_frees_1 rfl rfl ?_
  refine K_callV dX9_frees_2 YX9_isTrain kX9_109 (rc_of mO rfl) (c_X9_isTrain mO mS hfit _) rfl rfl (Nat.le_of_ble_eq_true rfl) (by decide) ?_
  refine J_if_ne (tgt := 10) dX9_frees_5 (by decide) (fun h5 => ?_) (fun h5 => ?_)
  · skip
    have e5 : (vi (sNt S) y).isSome = true := b2i_ne.mp h5
    obtain ⟨i, e5⟩ := isS_yes e5
    obtain ⟨hi, rfl⟩ := vi_some (by omega) e5
    refine J_aload_n dX9_frees_10 rfl rfl ?_
    refine J_iload_n dX9_frees_11 rfl rfl ?_
    refine K_callV dX9_frees_12 YX9_held kX9_112 (rc_of mO rfl) (c_X9_held mO mS hfit (show i < sNt S by omega)) rfl rfl (Nat.le_of_ble_eq_true rfl) (by decide) ?_
    refine J_istore_n dX9_frees_15 rfl (by decide) rfl ?_
    refine J_iload_n dX9_frees_16 rfl rfl ?_
    refine J_iconst (v := (-1)) dX9_frees_17 (by decide) ?_
    refine J_icmp_ne (tgt := 23) dX9_frees_18 (by decide) (fun h18 => ?_) (fun h18 => ?_)
    · skip
      obtain ⟨q, e18⟩ : ∃ k_, sHo S i = some k_ := by
        cases q : sHo S i with
        | none => exact absurd ((oI_m1 (sHo_b hwf (show i < sNt S by omega))).mpr q) h18
        | some k_ => exact ⟨k_, rfl⟩
      rw [e18, oI_s]
      have hqb := hwf.2.2.2.2.2.2.1 i hi q e18
      refine J_aload_n dX9_frees_23 rfl rfl ?_
      refine J_getfield dX9_frees_24 fX9_7 mO rfl ?_
      refine J_iconst (v := nI 4) dX9_frees_27 (by decide) ?_
      refine J_iconst (v := nI 4) dX9_frees_28 (by decide) ?_
      refine J_iload_n dX9_frees_29 rfl rfl ?_
      refine K_imul (v := nI (4 * q)) dX9_frees_30 (nI_mul _ _) ?_
      refine K_iadd (v := nI (4 + (4 * q))) dX9_frees_31 (nI_add _ _) ?_
      refine J_iconst (v := nI 3) dX9_frees_32 (by decide) ?_
      refine K_iadd (v := nI (4 + (4 * q) + 3)) dX9_frees_33 (nI_add _ _) ?_
      refine J_iconst (v := nI 0) dX9_frees_34 (by decide) ?_
      refine K_iast dX9_frees_35 mS (by omega) (by decide) (fun w1 u1 => ?_)
      have mF := (u1.2.1 _ (by omega)).trans mF
      have mK := (u1.2.1 _ (by omega)).trans mK
      have mO := (u1.2.1 _ (by omega)).trans mO
      have mS := u1.1
      have hfit2 := fit_hc hfit hi e18 (y := nI 0) rfl
      refine J_aload_n dX9_frees_36 rfl rfl ?_
      refine J_iload_n dX9_frees_37 rfl rfl ?_
      refine K_callVp dX9_frees_38 YX9_done kX9_88 (rc_of mO rfl) (c_X9_done mO _) rfl rfl (Nat.le_of_ble_eq_true rfl) (by decide) (fun v38 w38 q38 => ?_)
      obtain ⟨rfl, u38⟩ := q38
      have mO : w38.1 m = mCell m (va_up x 17 (nI q)) := u38.1
      have mS := (u38.2.1 _ (by omega)).trans mS
      have mF := (u38.2.1 _ (by omega)).trans mF
      have mK := (u38.2.1 _ (by omega)).trans mK
      exact J_ireturn dX9_frees_41 rfl rfl (MCh_ok (S' := sHold S i none) (y := nI q) (by simp [oFree, e5, e18]) ⟨_, _, _, mO, mS, mF, mK, hfit2⟩ (((FA.rf w m).up u1 (by omega) (by omega)).up u38 (by omega) (by omega)))
    · skip
      have e18 : sHo S i = none := (oI_m1 (sHo_b hwf (show i < sNt S by omega))).mp h18
      refine J_iconst (v := nI 2) dX9_frees_21 (by decide) ?_
      exact J_ireturn dX9_frees_22 rfl rfl (MCh_no (l := [1, 5]) hA (FA.rf _ _) (c := 4) (by simp [oFree, e5, e18]) rfl)
  · skip
    have e5 : (vi (sNt S) y).isSome = false := b2i_eq.mp h5
    have e5 := isS_no e5
    refine J_iconst (v := nI 1) dX9_frees_8 (by decide) ?_
    exact J_ireturn dX9_frees_9 rfl rfl (MCh_no (l := [1, 5]) hA (FA.rf _ _) (c := 0) (by simp [oFree, e5]) rfl)

theorem c_X9_rescues {w : Wd} {m : Nat} {x : Nat → Int32} {S : St} (hA : MA w m x S) (y : Int32) : MC 4 mX9_rescues 0 0 [.ref m, .int y] w (MCh w m x [1, 3] (oResc S y)) := by
  obtain ⟨f, g, h, mO, mS, mF, mK, hfit⟩ := id hA
  have hwf := hfit.2.2.2.2
  have hnb := hwf.nb
  have hnt := hwf.nt
  refine MC_j pnX9 rfl rfl rfl (Or.inr (fun E w h => RP_no E w h)) ?_
  show J 4 mX9_rescues 0 [some (.ref m), some (.int y), none, none] [] w 0 0 _
  have loop : ∀ i S2 f2 w1, FitM f2 S2 → oResc S (nI i) = (0, nI (cnt (sNt S2) (sOf S2)), S2) → w1.1 m = mCell m x → w1.1 (m + 1) = .inl (0, 116, .inl f2) → w1.1 (m + 9) = .inl (0, 14, .inl g) → w1.1 (m + 10) = .inl (0, 14, .inl h) → FA w w1 m → ∀ n u, sNt S2 < n + u → u ≤ sNt S2 → J 4 mX9_rescues 32 [some (.ref m), some (.int (nI i)), some (.int (nI (cnt u (sOf S2)))), some (.int (nI u))] [] w1 0 0 (MCh w m x [1, 3] (oResc S (nI i))) := by
    intro i S2 f2 w1 hfit2 hR mO mS mF mK hFr n
    have hwf2 := hfit2.2.2.2.2
    have hnb2 := hwf2.nb
    have hnt2 := hwf2.nt
    induction n with
    | zero => intros; omega
    | succ n ih =>
      intro u q1 q2
      refine J_iload_n dX9_rescues_32 rfl rfl ?_
      refine J_aload_n dX9_rescues_33 rfl rfl ?_
      refine J_getfield dX9_rescues_34 fX9_7 mO rfl ?_
      refine J_iconst (v := nI 1) dX9_rescues_37 (by decide) ?_
      refine K_iald (v := nI (sNt S2)) dX9_rescues_38 mS (by omega) (by decide) hfit2.1.2.1 ?_
      refine J_icmp_ge (tgt := 57) dX9_rescues_39 (by decide) (fun h39 => ?_) (fun h39 => ?_)
      · skip
        have h39 := (nI_leI (by omega) (by omega)).mp h39
        have eu : u = sNt S2 := by omega
        subst eu
        refine J_aload_n dX9_rescues_57 rfl rfl ?_
        refine J_iload_n dX9_rescues_58 rfl rfl ?_
        refine K_callVp dX9_rescues_59 YX9_done kX9_88 (rc_of mO rfl) (c_X9_done mO _) rfl rfl (Nat.le_of_ble_eq_true rfl) (by decide) (fun v59 w59 q59 => ?_)
        obtain ⟨rfl, u59⟩ := q59
        exact J_ireturn dX9_rescues_62 rfl rfl (MCh_ok (S' := S2) (y := nI (cnt (sNt S2) (sOf S2))) hR ⟨_, _, _, u59.1, (u59.2.1 _ (by omega)).trans mS, (u59.2.1 _ (by omega)).trans mF, (u59.2.1 _ (by omega)).trans mK, hfit2⟩ (hFr.up u59 (by omega) (by omega)))
      · skip
        have h39 := mt (nI_leI (by omega) (by omega)).mpr h39
        refine J_iload_n dX9_rescues_42 rfl rfl ?_
        refine J_aload_n dX9_rescues_43 rfl rfl ?_
        refine J_iload_n dX9_rescues_44 rfl rfl ?_
        refine J_iconst (v := nI 4) dX9_rescues_45 (by decide) ?_
        refine K_callV dX9_rescues_46 YX9_train kX9_75 (rc_of mO rfl) (c_X9_tOf mO mS hfit2 (show u < sNt S2 by omega)) rfl rfl (Nat.le_of_ble_eq_true rfl) (by decide) ?_
        refine K_iadd (v := nI (cnt (u + 1) (sOf S2))) dX9_rescues_49 (cnt_b2i _ _) ?_
        refine J_istore_n dX9_rescues_50 rfl (by decide) rfl ?_
        refine J_iinc (v := nI (u + 1)) dX9_rescues_51 rfl (nI_succ _).symm (by decide) rfl ?_
        refine J_goto (tgt := 32) dX9_rescues_54 (by decide) ?_
        exact ih (u + 1) (by omega) (by omega)
  refine J_aload_n dX9_rescues_0 rfl rfl ?_
  refine J_iload_n dX9_rescues_1 rfl rfl ?_
  refine K_callV dX9_rescues_2 YX9_isTrain kX9_109 (rc_of mO rfl) (c_X9_isTrain mO mS hfit _) rfl rfl (Nat.le_of_ble_eq_true rfl) (by decide) ?_
  refine J_if_ne (tgt := 10) dX9_rescues_5 (by decide) (fun h5 => ?_) (fun h5 => ?_)
  · skip
    have e5 : (vi (sNt S) y).isSome = true := b2i_ne.mp h5
    obtain ⟨i, e5⟩ := isS_yes e5
    obtain ⟨hi, rfl⟩ := vi_some (by omega) e5
    refine J_aload_n dX9_rescues_10 rfl rfl ?_
    refine J_iload_n dX9_rescues_11 rfl rfl ?_
    refine J_iconst (v := nI 4) dX9_rescues_12 (by decide) ?_
    refine K_callV dX9_rescues_13 YX9_train kX9_75 (rc_of mO rfl) (c_X9_tOf mO mS hfit (show i < sNt S by omega)) rfl rfl (Nat.le_of_ble_eq_true rfl) (by decide) ?_
    refine J_if_ne (tgt := 21) dX9_rescues_16 (by decide) (fun h16 => ?_) (fun h16 => ?_)
    · skip
      have e16 : sOf S i = true := b2i_ne.mp h16
      refine J_aload_n dX9_rescues_21 rfl rfl ?_
      refine J_iload_n dX9_rescues_22 rfl rfl ?_
      refine J_iconst (v := nI 4) dX9_rescues_23 (by decide) ?_
      refine J_iconst (v := nI 0) dX9_rescues_24 (by decide) ?_
      refine K_callVp dX9_rescues_25 YX9_sets kX9_105 (rc_of mO rfl) (c_X9_sets mO mS (t := i) (k := 4) (by omega) _) rfl rfl (Nat.le_of_ble_eq_true rfl) (by decide) (fun v25 w25 q25 => ?_)
      obtain ⟨rfl, u25⟩ := q25
      have mO := (u25.2.1 _ (by omega)).trans mO
      have mS := u25.1
      have mF := (u25.2.1 _ (by omega)).trans mF
      have mK := (u25.2.1 _ (by omega)).trans mK
      have hfit2 := fit_of hfit hi (v := false) (y := nI 0) rfl
      refine J_iconst (v := nI 0) dX9_rescues_28 (by decide) ?_
      refine J_istore_n dX9_rescues_29 rfl (by decide) rfl ?_
      refine J_iconst (v := nI 0) dX9_rescues_30 (by decide) ?_
      refine J_istore_n dX9_rescues_31 rfl (by decide) rfl ?_
      exact loop i (sOff S i false) _ _ hfit2 (by simp [oResc, e5, e16]; rfl) mO mS mF mK ((FA.rf w m).up u25 (by omega) (by omega)) (sNt S + 1) 0 (by show sNt S < _; omega) (by omega)
    · skip
      have e16 : sOf S i = false := b2i_eq.mp h16
      refine J_iconst (v := nI 2) dX9_rescues_19 (by decide) ?_
      exact J_ireturn dX9_rescues_20 rfl rfl (MCh_no (l := [1, 3]) hA (FA.rf _ _) (c := 2) (by simp [oResc, e5, e16]) rfl)
  · skip
    have e5 : (vi (sNt S) y).isSome = false := b2i_eq.mp h5
    have e5 := isS_no e5
    refine J_iconst (v := nI 1) dX9_rescues_8 (by decide) ?_
    exact J_ireturn dX9_rescues_9 rfl rfl (MCh_no (l := [1, 3]) hA (FA.rf _ _) (c := 0) (by simp [oResc, e5]) rfl)

end JMCHANGE

/-! THE MODEL: what changes its railway -/
section JMCHANGE
theorem c_X9_aims {w : Wd} {m : Nat} {x : Nat → Int32} {S : St} (hA : MA w m x S) (y z : Int32) : MC 4 mX9_aims 0 0 [.ref m, .int y, .int z] w (MCh w m x [1, 2, 4, 5] (oAim S y z)) := by
  obtain ⟨f, g, h, mO, mS, mF, mK, hfit⟩ := id hA
  have hwf := hfit.2.2.2.2
  have hnb := hwf.nb
  have hnt := hwf.nt
  refine MC_j pnX9 rfl rfl rfl (Or.inr (fun E w h => RP_no E w h)) ?_
  show J 4 mX9_aims 0 [some (.ref m), some (.int y), some (.int z)] [] w 0 0 _
  refine J_aload_n dX9_aims_0 rfl rfl ?_
  refine J_iload_n dX9_aims_1 rfl rfl ?_
  refine K_callV dX9_aims_2 YX9_isTrain kX9_109 (rc_of mO rfl) (c_X9_isTrain mO mS hfit _) rfl rfl (Nat.le_of_ble_eq_true rfl) (by decide) ?_
  refine J_if_eq (tgt := 16) dX9_aims_5 (by decide) (fun h5 => ?_) (fun h5 => ?_)
  · skip
    have e5 : (vi (sNt S) y).isSome = false := b2i_eq.mp h5
    have e5 := isS_no e5
    refine J_iconst (v := nI 1) dX9_aims_16 (by decide) ?_
    exact J_ireturn dX9_aims_17 rfl rfl (MCh_no (l := [1, 2, 4, 5]) hA (FA.rf _ _) (c := 0) (by simp [oAim, e5]) rfl)
  · skip
    have e5 : (vi (sNt S) y).isSome = true := b2i_ne.mp h5
    obtain ⟨i, e5⟩ := isS_yes e5
    obtain ⟨hi, rfl⟩ := vi_some (by omega) e5
    refine J_aload_n dX9_aims_8 rfl rfl ?_
    refine J_iload_n dX9_aims_9 rfl rfl ?_
    refine K_callV dX9_aims_10 YX9_isBlock kX9_91 (rc_of mO rfl) (c_X9_isBlock mO mS hfit _) rfl rfl (Nat.le_of_ble_eq_true rfl) (by decide) ?_
    refine J_if_ne (tgt := 18) dX9_aims_13 (by decide) (fun h13 => ?_) (fun h13 => ?_)
    · skip
      have e13 : (vi (sNb S) z).isSome = true := b2i_ne.mp h13
      obtain ⟨j, e13⟩ := isS_yes e13
      obtain ⟨hj, rfl⟩ := vi_some (by omega) e13
      refine J_aload_n dX9_aims_18 rfl rfl ?_
      refine J_iload_n dX9_aims_19 rfl rfl ?_
      refine J_iconst (v := nI 1) dX9_aims_20 (by decide) ?_
      refine K_callV dX9_aims_21 YX9_block kX9_71 (rc_of mO rfl) (c_X9_bCu mO mS hfit (show j < sNb S by omega)) rfl rfl (Nat.le_of_ble_eq_true rfl) (by decide) ?_
      refine J_if_ne (tgt := 29) dX9_aims_24 (by decide) (fun h24 => ?_) (fun h24 => ?_)
      · skip
        have e24 : sCu S j = true := b2i_ne.mp h24
        refine J_aload_n dX9_aims_29 rfl rfl ?_
        refine J_iload_n dX9_aims_30 rfl rfl ?_
        refine J_iconst (v := nI 0) dX9_aims_31 (by decide) ?_
        have hpt := hwf.2.2.2.2.1 i hi
        refine K_callV dX9_aims_32 YX9_train kX9_75 (rc_of mO rfl) (c_X9_tPl mO mS hfit (show i < sNt S by omega)) rfl rfl (Nat.le_of_ble_eq_true rfl) (by decide) ?_
        refine J_iload_n dX9_aims_35 rfl rfl ?_
        refine J_icmp_ne (tgt := 41) dX9_aims_36 (by decide) (fun h36 => ?_) (fun h36 => ?_)
        · skip
          have h36 := mt (nI_eq (by omega) (by omega)).mpr h36
          refine J_aload_n dX9_aims_41 rfl rfl ?_
          refine J_iload_n dX9_aims_42 rfl rfl ?_
          refine K_callVp dX9_aims_43 YX9_ways kX9_84 (rc_of mO rfl) (c_X9_ways hA (show j < sNb S from hj)) rfl rfl (Nat.le_of_ble_eq_true rfl) (by decide) (fun v43 w43 q43 => ?_)
          obtain ⟨rfl, hF43, g43, mF43, hfar⟩ := q43
          have mK := (hF43.1 _ (by omega)).trans mK
          have mO := (hF43.1 _ (by omega)).trans mO
          have mS := (hF43.1 _ (by omega)).trans mS
          refine J_aload_n dX9_aims_46 rfl rfl ?_
          refine J_getfield dX9_aims_47 fX9_34 mO rfl ?_
          refine J_aload_n dX9_aims_50 rfl rfl ?_
          refine J_iload_n dX9_aims_51 rfl rfl ?_
          refine J_iconst (v := nI 0) dX9_aims_52 (by decide) ?_
          refine K_callV dX9_aims_53 YX9_train kX9_75 (rc_of mO rfl) (c_X9_tPl mO mS hfit (show i < sNt S by omega)) rfl rfl (Nat.le_of_ble_eq_true rfl) (by decide) ?_
          have q56a := dF9_le hwf (s := sPl S i) hj
          refine K_iald (v := nI (dF 9999 (dS S (sPl S i) j))) dX9_aims_56 mF43 (by omega) (by decide) (hfar (sPl S i) (by omega)) ?_
          refine J_sipush (v := nI 9999) dX9_aims_57 (by decide) ?_
          refine J_icmp_lt (tgt := 65) dX9_aims_60 (by decide) (fun h60 => ?_) (fun h60 => ?_)
          · skip
            have h60 := (nI_ltI (by omega) (by omega)).mp h60
            obtain ⟨c, hc⟩ := dF_lt h60
            have hv : dF 9999 (dS S (sPl S i) j) = c := by rw [hc]; rfl
            refine J_aload_n dX9_aims_65 rfl rfl ?_
            refine J_iload_n dX9_aims_66 rfl rfl ?_
            refine J_iconst (v := nI 3) dX9_aims_67 (by decide) ?_
            refine J_iload_n dX9_aims_68 rfl rfl ?_
            refine J_iconst (v := nI 1) dX9_aims_69 (by decide) ?_
            refine K_iadd (v := nI (j + 1)) dX9_aims_70 (nI_add _ _) ?_
            refine K_callVp dX9_aims_71 YX9_sets kX9_105 (rc_of mO rfl) (c_X9_sets mO mS (t := i) (k := 3) (by omega) _) rfl rfl (Nat.le_of_ble_eq_true rfl) (by decide) (fun v71 w71 q71 => ?_)
            obtain ⟨rfl, u71⟩ := q71
            have mO := (u71.2.1 _ (by omega)).trans mO
            have mS := u71.1
            have mF43 := (u71.2.1 _ (by omega)).trans mF43
            have mK := (u71.2.1 _ (by omega)).trans mK
            have hfit2 := fit_go hfit hi (g := some j) rfl (fun x e => by cases e; exact hj)
            refine J_aload_n dX9_aims_74 rfl rfl ?_
            refine J_aload_n dX9_aims_75 rfl rfl ?_
            refine J_getfield dX9_aims_76 fX9_34 mO rfl ?_
            refine J_aload_n dX9_aims_79 rfl rfl ?_
            refine J_iload_n dX9_aims_80 rfl rfl ?_
            refine J_iconst (v := nI 0) dX9_aims_81 (by decide) ?_
            refine K_callV dX9_aims_82 YX9_train kX9_75 (rc_of mO rfl) (c_X9_tPl mO mS hfit2 (show i < sNt S from hi)) rfl rfl (Nat.le_of_ble_eq_true rfl) (by decide) ?_
            refine K_iald (v := nI c) dX9_aims_85 mF43 (by show sPl S i < 14; omega) (by decide) ((hfar (sPl S i) (by omega)).trans (congrArg nI hv)) ?_
            refine K_callVp dX9_aims_86 YX9_done kX9_88 (rc_of mO rfl) (c_X9_done mO _) rfl rfl (Nat.le_of_ble_eq_true rfl) (by decide) (fun v86 w86 q86 => ?_)
            obtain ⟨rfl, u86⟩ := q86
            exact J_ireturn dX9_aims_89 rfl rfl (MCh_ok (S' := sGoal S i (some j)) (y := nI c) (by simp [oAim, e5, e13, e24, h36, hc]) ⟨_, _, _, u86.1, (u86.2.1 _ (by omega)).trans mS, (u86.2.1 _ (by omega)).trans mF43, (u86.2.1 _ (by omega)).trans mK, hfit2⟩ ((((FA.rf w m).tr hF43 (by omega) (by omega)).up u71 (by omega) (by omega)).up u86 (by omega) (by omega)))
          · skip
            have h60 := mt (nI_ltI (by omega) (by omega)).mpr h60
            have hc := dF_ge (fun c e => dS_le hwf hj e) h60
            refine J_iconst (v := nI 4) dX9_aims_63 (by decide) ?_
            exact J_ireturn dX9_aims_64 rfl rfl (MCh_no (l := [1, 2, 4, 5]) ⟨_, _, _, mO, mS, mF43, mK, hfit⟩ ((FA.rf w m).tr hF43 (by omega) (by omega)) (c := 4) (by simp [oAim, e5, e13, e24, h36, hc]) rfl)
        · skip
          have h36 := (nI_eq (by omega) (by omega)).mp h36
          refine J_iconst (v := nI 3) dX9_aims_39 (by decide) ?_
          exact J_ireturn dX9_aims_40 rfl rfl (MCh_no (l := [1, 2, 4, 5]) hA (FA.rf _ _) (c := 3) (by simp [oAim, e5, e13, e24, h36]) rfl)
      · skip
        have e24 : sCu S j = false := b2i_eq.mp h24
        refine J_iconst (v := nI 2) dX9_aims_27 (by decide) ?_
        exact J_ireturn dX9_aims_28 rfl rfl (MCh_no (l := [1, 2, 4, 5]) hA (FA.rf _ _) (c := 1) (by simp [oAim, e5, e13, e24]) rfl)
    · skip
      have e13 : (vi (sNb S) z).isSome = false := b2i_eq.mp h13
      have e13 := isS_no e13
      refine J_iconst (v := nI 1) dX9_aims_16 (by decide) ?_
      exact J_ireturn dX9_aims_17 rfl rfl (MCh_no (l := [1, 2, 4, 5]) hA (FA.rf _ _) (c := 0) (by simp [oAim, e5, e13]) rfl)

theorem c_X9_forgets {w : Wd} {m : Nat} {x : Nat → Int32} {S : St} (hA : MA w m x S) (y : Int32) : MC 4 mX9_forgets 0 0 [.ref m, .int y] w (MCh w m x [1, 5] (oDrop S y)) := by
  obtain ⟨f, g, h, mO, mS, mF, mK, hfit⟩ := id hA
  have hwf := hfit.2.2.2.2
  have hnb := hwf.nb
  have hnt := hwf.nt
  refine MC_j pnX9 rfl rfl rfl (Or.inr (fun E w h => RP_no E w h)) ?_
  show J 4 mX9_forgets 0 [some (.ref m), some (.int y), none] [] w 0 0 _
  refine J_aload_n dX9_forgets_0 rfl rfl ?_
  refine J_iload_n dX9_forgets_1 rfl rfl ?_
  refine K_callV dX9_forgets_2 YX9_isTrain kX9_109 (rc_of mO rfl) (c_X9_isTrain mO mS hfit _) rfl rfl (Nat.le_of_ble_eq_true rfl) (by decide) ?_
  refine J_if_ne (tgt := 10) dX9_forgets_5 (by decide) (fun h5 => ?_) (fun h5 => ?_)
  · skip
    have e5 : (vi (sNt S) y).isSome = true := b2i_ne.mp h5
    obtain ⟨i, e5⟩ := isS_yes e5
    obtain ⟨hi, rfl⟩ := vi_some (by omega) e5
    refine J_aload_n dX9_forgets_10 rfl rfl ?_
    refine J_iload_n dX9_forgets_11 rfl rfl ?_
    refine K_callV dX9_forgets_12 YX9_goalOf kX9_81 (rc_of mO rfl) (c_X9_goalOf mO mS hfit (show i < sNt S by omega)) rfl rfl (Nat.le_of_ble_eq_true rfl) (by decide) ?_
    refine J_istore_n dX9_forgets_15 rfl (by decide) rfl ?_
    refine J_iload_n dX9_forgets_16 rfl rfl ?_
    refine J_iconst (v := (-1)) dX9_forgets_17 (by decide) ?_
    refine J_icmp_ne (tgt := 23) dX9_forgets_18 (by decide) (fun h18 => ?_) (fun h18 => ?_)
    · skip
      obtain ⟨q, e18⟩ : ∃ k_, sGo S i = some k_ := by
        cases q : sGo S i with
        | none => exact absurd ((oI_m1 (sGo_b hwf (show i < sNt S by omega))).mpr q) h18
        | some k_ => exact ⟨k_, rfl⟩
      rw [e18, oI_s]
      refine J_aload_n dX9_forgets_23 rfl rfl ?_
      refine J_iload_n dX9_forgets_24 rfl rfl ?_
      refine J_iconst (v := nI 3) dX9_forgets_25 (by decide) ?_
      refine J_iconst (v := nI 0) dX9_forgets_26 (by decide) ?_
      refine K_callVp dX9_forgets_27 YX9_sets kX9_105 (rc_of mO rfl) (c_X9_sets mO mS (t := i) (k := 3) (by omega) _) rfl rfl (Nat.le_of_ble_eq_true rfl) (by decide) (fun v27 w27 q27 => ?_)
      obtain ⟨rfl, u27⟩ := q27
      have mO := (u27.2.1 _ (by omega)).trans mO
      have mS := u27.1
      have mF := (u27.2.1 _ (by omega)).trans mF
      have mK := (u27.2.1 _ (by omega)).trans mK
      have hfit2 := fit_go hfit hi (g := none) rfl (fun x e => by cases e)
      refine J_aload_n dX9_forgets_30 rfl rfl ?_
      refine J_iload_n dX9_forgets_31 rfl rfl ?_
      refine K_callVp dX9_forgets_32 YX9_done kX9_88 (rc_of mO rfl) (c_X9_done mO _) rfl rfl (Nat.le_of_ble_eq_true rfl) (by decide) (fun v32 w32 q32 => ?_)
      obtain ⟨rfl, u32⟩ := q32
      have mO : w32.1 m = mCell m (va_up x 17 (nI q)) := u32.1
      have mS := (u32.2.1 _ (by omega)).trans mS
      have mF := (u32.2.1 _ (by omega)).trans mF
      have mK := (u32.2.1 _ (by omega)).trans mK
      exact J_ireturn dX9_forgets_35 rfl rfl (MCh_ok (S' := sGoal S i none) (y := nI q) (by simp [oDrop, e5, e18]) ⟨_, _, _, mO, mS, mF, mK, hfit2⟩ (((FA.rf w m).up u27 (by omega) (by omega)).up u32 (by omega) (by omega)))
    · skip
      have e18 : sGo S i = none := (oI_m1 (sGo_b hwf (show i < sNt S by omega))).mp h18
      refine J_iconst (v := nI 2) dX9_forgets_21 (by decide) ?_
      exact J_ireturn dX9_forgets_22 rfl rfl (MCh_no (l := [1, 5]) hA (FA.rf _ _) (c := 4) (by simp [oDrop, e5, e18]) rfl)
  · skip
    have e5 : (vi (sNt S) y).isSome = false := b2i_eq.mp h5
    have e5 := isS_no e5
    refine J_iconst (v := nI 1) dX9_forgets_8 (by decide) ?_
    exact J_ireturn dX9_forgets_9 rfl rfl (MCh_no (l := [1, 5]) hA (FA.rf _ _) (c := 0) (by simp [oDrop, e5]) rfl)

end JMCHANGE

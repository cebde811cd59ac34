/-! THE MODEL: what changes its railway -/
section JMCHANGE
theorem c_X9_joins {w : Wd} {m : Nat} {x : Nat → Int32} {S : St} (hA : MA w m x S) (y z : Int32) : MC 4 mX9_joins 0 0 [.ref m, .int y, .int z] w (MCh w m x [1, 2, 3] (oJoin S y z)) := by
  obtain ⟨f, g, h, mO, mS, mF, mK, hfit⟩ := id hA
  have hwf := hfit.2.2.2.2
  have hnb := hwf.nb
  have hnt := hwf.nt
  refine MC_j pnX9 rfl rfl rfl (Or.inr (fun E w h => RP_no E w h)) ?_
  show J 4 mX9_joins 0 [some (.ref m), some (.int y), some (.int z)] [] w 0 0 _
  refine J_aload_n dX9_joins_0 rfl rfl ?_
  refine J_iload_n dX9_joins_1 rfl rfl ?_
  refine K_callV dX9_joins_2 YX9_isBlock kX9_91 (rc_of mO rfl) (c_X9_isBlock mO mS hfit _) rfl rfl (Nat.le_of_ble_eq_true rfl) (by decide) ?_
  refine J_if_eq (tgt := 16) dX9_joins_5 (by decide) (fun h5 => ?_) (fun h5 => ?_)
  · skip
    have e5 : (vi (sNb S) y).isSome = false := b2i_eq.mp h5
    have e5 := isS_no e5
    refine J_iconst (v := nI 1) dX9_joins_16 (by decide) ?_
    exact J_ireturn dX9_joins_17 rfl rfl (MCh_no (l := [1, 2, 3]) hA (FA.rf _ _) (c := 0) (by simp [oJoin, e5]) rfl)
  · skip
    have e5 : (vi (sNb S) y).isSome = true := b2i_ne.mp h5
    obtain ⟨i, e5⟩ := isS_yes e5
    obtain ⟨hi, rfl⟩ := vi_some (by omega) e5
    refine J_aload_n dX9_joins_8 rfl rfl ?_
    refine J_iload_n dX9_joins_9 rfl rfl ?_
    refine K_callV dX9_joins_10 YX9_isBlock kX9_91 (rc_of mO rfl) (c_X9_isBlock mO mS hfit _) rfl rfl (Nat.le_of_ble_eq_true rfl) (by decide) ?_
    refine J_if_ne (tgt := 18) dX9_joins_13 (by decide) (fun h13 => ?_) (fun h13 => ?_)
    · skip
      have e13 : (vi (sNb S) z).isSome = true := b2i_ne.mp h13
      obtain ⟨j, e13⟩ := isS_yes e13
      obtain ⟨hj, rfl⟩ := vi_some (by omega) e13
      refine J_iload_n dX9_joins_18 rfl rfl ?_
      refine J_iload_n dX9_joins_19 rfl rfl ?_
      refine J_icmp_ne (tgt := 25) dX9_joins_20 (by decide) (fun h20 => ?_) (fun h20 => ?_)
      · skip
        have h20 := mt (nI_eq (by omega) (by omega)).mpr h20
        have hij := h20
        refine J_aload_n dX9_joins_25 rfl rfl ?_
        refine J_iload_n dX9_joins_26 rfl rfl ?_
        refine J_iload_n dX9_joins_27 rfl rfl ?_
        refine K_callV dX9_joins_28 YX9_linked kX9_67 (rc_of mO rfl) (c_X9_linked mO mS hfit (show i < sNb S by omega) (show j < 32 by omega)) rfl rfl (Nat.le_of_ble_eq_true rfl) (by decide) ?_
        refine J_if_eq (tgt := 36) dX9_joins_31 (by decide) (fun h31 => ?_) (fun h31 => ?_)
        · skip
          have e31 : sLk S i j = false := b2i_eq.mp h31
          refine J_aload_n dX9_joins_36 rfl rfl ?_
          refine J_getfield dX9_joins_37 fX9_7 mO rfl ?_
          refine J_bipush (v := nI 60) dX9_joins_40 (by decide) ?_
          refine J_iload_n dX9_joins_42 rfl rfl ?_
          refine K_iadd (v := nI (60 + i)) dX9_joins_43 (nI_add _ _) ?_
          refine J_dup2 dX9_joins_44 rfl rfl ?_
          refine K_iald (v := f (60 + i)) dX9_joins_45 mS (by omega) (by decide) rfl ?_
          refine J_iconst (v := nI 1) dX9_joins_46 (by decide) ?_
          refine J_iload_n dX9_joins_47 rfl rfl ?_
          refine K_ishl (v := ((1 : Int32) <<< (nI j &&& 31))) dX9_joins_48 rfl ?_
          refine K_ior (v := (f (60 + i) ||| ((1 : Int32) <<< (nI j &&& 31)))) dX9_joins_49 rfl ?_
          refine K_iast dX9_joins_50 mS (by omega) (by decide) (fun w1 u1 => ?_)
          have mF := (u1.2.1 _ (by omega)).trans mF
          have mK := (u1.2.1 _ (by omega)).trans mK
          have mO := (u1.2.1 _ (by omega)).trans mO
          have mS := u1.1
          refine J_aload_n dX9_joins_51 rfl rfl ?_
          refine J_getfield dX9_joins_52 fX9_7 mO rfl ?_
          refine J_bipush (v := nI 60) dX9_joins_55 (by decide) ?_
          refine J_iload_n dX9_joins_57 rfl rfl ?_
          refine K_iadd (v := nI (60 + j)) dX9_joins_58 (nI_add _ _) ?_
          refine J_dup2 dX9_joins_59 rfl rfl ?_
          refine K_iald (v := f (60 + j)) dX9_joins_60 mS (by omega) (by decide) (up_n _ _ (by omega)) ?_
          refine J_iconst (v := nI 1) dX9_joins_61 (by decide) ?_
          refine J_iload_n dX9_joins_62 rfl rfl ?_
          refine K_ishl (v := ((1 : Int32) <<< (nI i &&& 31))) dX9_joins_63 rfl ?_
          refine K_ior (v := (f (60 + j) ||| ((1 : Int32) <<< (nI i &&& 31)))) dX9_joins_64 rfl ?_
          refine K_iast dX9_joins_65 mS (by omega) (by decide) (fun w2 u2 => ?_)
          have mF := (u2.2.1 _ (by omega)).trans mF
          have mK := (u2.2.1 _ (by omega)).trans mK
          have mO := (u2.2.1 _ (by omega)).trans mO
          have mS := u2.1
          have hfit2 := fit_lk hfit hi hj hij (v := true) (bits_set (hfit.2.2.1 i hi) (by omega)) (bits_set (hfit.2.2.1 j hj) (by omega))
          refine J_aload_n dX9_joins_66 rfl rfl ?_
          refine J_aload_n dX9_joins_67 rfl rfl ?_
          refine K_callV dX9_joins_68 YX9_links kX9_95 (rc_of mO rfl) (c_X9_links mO mS hfit2) rfl rfl (Nat.le_of_ble_eq_true rfl) (by decide) ?_
          refine K_callVp dX9_joins_71 YX9_done kX9_88 (rc_of mO rfl) (c_X9_done mO _) rfl rfl (Nat.le_of_ble_eq_true rfl) (by decide) (fun v71 w71 q71 => ?_)
          obtain ⟨rfl, u71⟩ := q71
          have mO : w71.1 m = mCell m (va_up x 17 (nI (lkN (sLink S i j true) (sNb S)))) := u71.1
          have mS := (u71.2.1 _ (by omega)).trans mS
          have mF := (u71.2.1 _ (by omega)).trans mF
          have mK := (u71.2.1 _ (by omega)).trans mK
          exact J_ireturn dX9_joins_74 rfl rfl (MCh_ok (S' := sLink S i j true) (y := nI (lkN (sLink S i j true) (sNb S))) (by simp [oJoin, e5, e13, h20, e31]) ⟨_, _, _, mO, mS, mF, mK, hfit2⟩ ((((FA.rf w m).up u1 (by omega) (by omega)).up u2 (by omega) (by omega)).up u71 (by omega) (by omega)))
        · skip
          have e31 : sLk S i j = true := b2i_ne.mp h31
          refine J_iconst (v := nI 3) dX9_joins_34 (by decide) ?_
          exact J_ireturn dX9_joins_35 rfl rfl (MCh_no (l := [1, 2, 3]) hA (FA.rf _ _) (c := 2) (by simp [oJoin, e5, e13, h20, e31]) rfl)
      · skip
        have h20 := (nI_eq (by omega) (by omega)).mp h20
        refine J_iconst (v := nI 2) dX9_joins_23 (by decide) ?_
        exact J_ireturn dX9_joins_24 rfl rfl (MCh_no (l := [1, 2, 3]) hA (FA.rf _ _) (c := 1) (by simp [oJoin, e5, e13, h20]) rfl)
    · skip
      have e13 : (vi (sNb S) z).isSome = false := b2i_eq.mp h13
      have e13 := isS_no e13
      refine J_iconst (v := nI 1) dX9_joins_16 (by decide) ?_
      exact J_ireturn dX9_joins_17 rfl rfl (MCh_no (l := [1, 2, 3]) hA (FA.rf _ _) (c := 0) (by simp [oJoin, e5, e13]) rfl)

theorem c_X9_parts {w : Wd} {m : Nat} {x : Nat → Int32} {S : St} (hA : MA w m x S) (y z : Int32) : MC 4 mX9_parts 0 0 [.ref m, .int y, .int z] w (MCh w m x [1, 5] (oPart S y z)) := by
  obtain ⟨f, g, h, mO, mS, mF, mK, hfit⟩ := id hA
  have hwf := hfit.2.2.2.2
  have hnb := hwf.nb
  have hnt := hwf.nt
  refine MC_j pnX9 rfl rfl rfl (Or.inr (fun E w h => RP_no E w h)) ?_
  show J 4 mX9_parts 0 [some (.ref m), some (.int y), some (.int z)] [] w 0 0 _
  refine J_aload_n dX9_parts_0 rfl rfl ?_
  refine J_iload_n dX9_parts_1 rfl rfl ?_
  refine K_callV dX9_parts_2 YX9_isBlock kX9_91 (rc_of mO rfl) (c_X9_isBlock mO mS hfit _) rfl rfl (Nat.le_of_ble_eq_true rfl) (by decide) ?_
  refine J_if_eq (tgt := 16) dX9_parts_5 (by decide) (fun h5 => ?_) (fun h5 => ?_)
  · skip
    have e5 : (vi (sNb S) y).isSome = false := b2i_eq.mp h5
    have e5 := isS_no e5
    refine J_iconst (v := nI 1) dX9_parts_16 (by decide) ?_
    exact J_ireturn dX9_parts_17 rfl rfl (MCh_no (l := [1, 5]) hA (FA.rf _ _) (c := 0) (by simp [oPart, e5]) rfl)
  · skip
    have e5 : (vi (sNb S) y).isSome = true := b2i_ne.mp h5
    obtain ⟨i, e5⟩ := isS_yes e5
    obtain ⟨hi, rfl⟩ := vi_some (by omega) e5
    refine J_aload_n dX9_parts_8 rfl rfl ?_
    refine J_iload_n dX9_parts_9 rfl rfl ?_
    refine K_callV dX9_parts_10 YX9_isBlock kX9_91 (rc_of mO rfl) (c_X9_isBlock mO mS hfit _) rfl rfl (Nat.le_of_ble_eq_true rfl) (by decide) ?_
    refine J_if_ne (tgt := 18) dX9_parts_13 (by decide) (fun h13 => ?_) (fun h13 => ?_)
    · skip
      have e13 : (vi (sNb S) z).isSome = true := b2i_ne.mp h13
      obtain ⟨j, e13⟩ := isS_yes e13
      obtain ⟨hj, rfl⟩ := vi_some (by omega) e13
      refine J_aload_n dX9_parts_18 rfl rfl ?_
      refine J_iload_n dX9_parts_19 rfl rfl ?_
      refine J_iload_n dX9_parts_20 rfl rfl ?_
      refine K_callV dX9_parts_21 YX9_linked kX9_67 (rc_of mO rfl) (c_X9_linked mO mS hfit (show i < sNb S by omega) (show j < 32 by omega)) rfl rfl (Nat.le_of_ble_eq_true rfl) (by decide) ?_
      refine J_if_ne (tgt := 29) dX9_parts_24 (by decide) (fun h24 => ?_) (fun h24 => ?_)
      · skip
        have e24 : sLk S i j = true := b2i_ne.mp h24
        have hij := (hwf.2.2.2.1 _ _ e24).2.2.1
        refine J_aload_n dX9_parts_29 rfl rfl ?_
        refine J_getfield dX9_parts_30 fX9_7 mO rfl ?_
        refine J_bipush (v := nI 60) dX9_parts_33 (by decide) ?_
        refine J_iload_n dX9_parts_35 rfl rfl ?_
        refine K_iadd (v := nI (60 + i)) dX9_parts_36 (nI_add _ _) ?_
        refine J_dup2 dX9_parts_37 rfl rfl ?_
        refine K_iald (v := f (60 + i)) dX9_parts_38 mS (by omega) (by decide) rfl ?_
        refine J_iconst (v := nI 1) dX9_parts_39 (by decide) ?_
        refine J_iload_n dX9_parts_40 rfl rfl ?_
        refine K_ishl (v := ((1 : Int32) <<< (nI j &&& 31))) dX9_parts_41 rfl ?_
        refine J_iconst (v := (-1)) dX9_parts_42 (by decide) ?_
        refine K_ixor (v := (((1 : Int32) <<< (nI j &&& 31)) ^^^ (-1))) dX9_parts_43 rfl ?_
        refine K_iand (v := (f (60 + i) &&& (((1 : Int32) <<< (nI j &&& 31)) ^^^ (-1)))) dX9_parts_44 rfl ?_
        refine K_iast dX9_parts_45 mS (by omega) (by decide) (fun w1 u1 => ?_)
        have mF := (u1.2.1 _ (by omega)).trans mF
        have mK := (u1.2.1 _ (by omega)).trans mK
        have mO := (u1.2.1 _ (by omega)).trans mO
        have mS := u1.1
        refine J_aload_n dX9_parts_46 rfl rfl ?_
        refine J_getfield dX9_parts_47 fX9_7 mO rfl ?_
        refine J_bipush (v := nI 60) dX9_parts_50 (by decide) ?_
        refine J_iload_n dX9_parts_52 rfl rfl ?_
        refine K_iadd (v := nI (60 + j)) dX9_parts_53 (nI_add _ _) ?_
        refine J_dup2 dX9_parts_54 rfl rfl ?_
        refine K_iald (v := f (60 + j)) dX9_parts_55 mS (by omega) (by decide) (up_n _ _ (by omega)) ?_
        refine J_iconst (v := nI 1) dX9_parts_56 (by decide) ?_
        refine J_iload_n dX9_parts_57 rfl rfl ?_
        refine K_ishl (v := ((1 : Int32) <<< (nI i &&& 31))) dX9_parts_58 rfl ?_
        refine J_iconst (v := (-1)) dX9_parts_59 (by decide) ?_
        refine K_ixor (v := (((1 : Int32) <<< (nI i &&& 31)) ^^^ (-1))) dX9_parts_60 rfl ?_
        refine K_iand (v := (f (60 + j) &&& (((1 : Int32) <<< (nI i &&& 31)) ^^^ (-1)))) dX9_parts_61 rfl ?_
        refine K_iast dX9_parts_62 mS (by omega) (by decide) (fun w2 u2 => ?_)
        have mF := (u2.2.1 _ (by omega)).trans mF
        have mK := (u2.2.1 _ (by omega)).trans mK
        have mO := (u2.2.1 _ (by omega)).trans mO
        have mS := u2.1
        have hfit2 := fit_lk hfit hi hj hij (v := false) (bits_clr (hfit.2.2.1 i hi) (by omega)) (bits_clr (hfit.2.2.1 j hj) (by omega))
        refine J_aload_n dX9_parts_63 rfl rfl ?_
        refine J_aload_n dX9_parts_64 rfl rfl ?_
        refine K_callV dX9_parts_65 YX9_links kX9_95 (rc_of mO rfl) (c_X9_links mO mS hfit2) rfl rfl (Nat.le_of_ble_eq_true rfl) (by decide) ?_
        refine K_callVp dX9_parts_68 YX9_done kX9_88 (rc_of mO rfl) (c_X9_done mO _) rfl rfl (Nat.le_of_ble_eq_true rfl) (by decide) (fun v68 w68 q68 => ?_)
        obtain ⟨rfl, u68⟩ := q68
        have mO : w68.1 m = mCell m (va_up x 17 (nI (lkN (sLink S i j false) (sNb S)))) := u68.1
        have mS := (u68.2.1 _ (by omega)).trans mS
        have mF := (u68.2.1 _ (by omega)).trans mF
        have mK := (u68.2.1 _ (by omega)).trans mK
        exact J_ireturn dX9_parts_71 rfl rfl (MCh_ok (S' := sLink S i j false) (y := nI (lkN (sLink S i j false) (sNb S))) (by simp [oPart, e5, e13, e24]) ⟨_, _, _, mO, mS, mF, mK, hfit2⟩ ((((FA.rf w m).up u1 (by omega) (by omega)).up u2 (by omega) (by omega)).up u68 (by omega) (by omega)))
      · skip
        have e24 : sLk S i j = false := b2i_eq.mp h24
        refine J_iconst (v := nI 2) dX9_parts_27 (by decide) ?_
        exact J_ireturn dX9_parts_28 rfl rfl (MCh_no (l := [1, 5]) hA (FA.rf _ _) (c := 4) (by simp [oPart, e5, e13, e24]) rfl)
    · skip
      have e13 : (vi (sNb S) z).isSome = false := b2i_eq.mp h13
      have e13 := isS_no e13
      refine J_iconst (v := nI 1) dX9_parts_16 (by decide) ?_
      exact J_ireturn dX9_parts_17 rfl rfl (MCh_no (l := [1, 5]) hA (FA.rf _ _) (c := 0) (by simp [oPart, e5, e13]) rfl)

end JMCHANGE

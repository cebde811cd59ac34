/-! THE MODEL: what changes its railway -/
section JMCHANGE
/-- an error's number, as a method counts its exceptions -/
def cod (l : List Nat) (c : Nat) : Nat := if c = 0 then 0 else l.idxOf c + 1
/-- a change of the model's railway -/
def MCh (w : Wd) (m : Nat) (x : Nat → Int32) (l : List Nat) (R : Rs) : Po := RP (fun v w' => v = some (.int (nI (cod l R.1))) ∧ FA w w' m ∧ ∃ x' : Nat → Int32, MA w' m x' R.2.2 ∧ (∀ k, k ≠ 17 → x' k = x k) ∧ (R.1 = 0 → x' 17 = R.2.1))
theorem MCh_no {w w' : Wd} {m : Nat} {x : Nat → Int32} {l : List Nat} {S : St} {R : Rs} {c : Nat} {y : Int32} (h : MA w' m x S) (f : FA w w' m) (e : R = (c + 1, 0, S)) (hy : nI (cod l (c + 1)) = y) : MCh w m x l R (.inl (some (.int y))) w' := by
  subst e
  subst hy
  exact RP_i ⟨rfl, f, x, h, fun _ _ => rfl, fun z => absurd z (Nat.succ_ne_zero c)⟩
theorem MCh_ok {w w' : Wd} {m : Nat} {x : Nat → Int32} {l : List Nat} {S' : St} {R : Rs} {y : Int32} (e : R = (0, y, S')) (h : MA w' m (va_up x 17 y) S') (f : FA w w' m) : MCh w m x l R (.inl (some (.int (nI 0)))) w' := by
  subst e
  exact RP_i ⟨rfl, f, _, h, fun k hk => up_n _ _ hk, fun _ => up_s _ _ _⟩
/-- a boolean that is written as a choice -/
theorem MA_up1 {w w' : Wd} {m : Nat} {x : Nat → Int32} {S S' : St} {f : Nat → Int32} (h : MA w m x S) (u : Up w w' (m + 1) (.inl (0, 116, .inl f))) (hf : FitM f S') : MA w' m x S' := by
  obtain ⟨f0, g, h, mO, mS, mF, mK, hfit⟩ := h
  exact ⟨f, g, h, (u.2.1 _ (by omega)).trans mO, u.1, (u.2.1 _ (by omega)).trans mF, (u.2.1 _ (by omega)).trans mK, hf⟩
theorem v19_of {x : Int32} (h : (v19 x).isSome = true) : ∃ k, v19 x = some k ∧ 1 ≤ k ∧ k ≤ 9 ∧ x = nI k := by
  obtain ⟨k, e⟩ := isS_yes h
  exact ⟨k, e, v19_some e⟩
theorem c_X9_done {w : Wd} {m : Nat} {x : Nat → Int32} (mO : w.1 m = mCell m x) (y : Int32) : MC 2 mX9_done 0 0 [.ref m, .int y] w (RP (fun v w' => v = some (.int (nI 0)) ∧ Up w w' m (mCell m (va_up x 17 y)))) := by
  refine MC_j pnX9 rfl rfl rfl (Or.inr (fun E w h => RP_no E w h)) ?_
  show J 2 mX9_done 0 [some (.ref m), some (.int y)] [] w 0 0 _
  refine J_aload_n dX9_done_0 rfl rfl ?_
  refine J_iload_n dX9_done_1 rfl rfl ?_
  refine K_putI dX9_done_2 fX9_53 (Or.inl rfl) mO (Nat.le_of_ble_eq_true rfl) (fun w1 u1 => ?_)
  have mO := u1.1
  have mO : w1.1 m = .inr (9, [.int (x 0), .ref (m + 1), .ref (m + 2), .ref (m + 3), .ref (m + 4), .ref (m + 5), .int (x 6), .int (x 7), .ref (m + 6), .ref (m + 7), .ref (m + 8), .ref (m + 9), .ref (m + 10), .int (x 13), .int (x 14), .int (x 15), .int (x 16), .int (y), .int (x 18), .int (x 19), .int (x 20), .int (x 21)]) := mO
  refine J_iconst (v := nI 0) dX9_done_5 (by decide) ?_
  exact J_ireturn dX9_done_6 rfl rfl (RP_i ⟨rfl, u1⟩)

theorem c_X9_seats {w : Wd} {m : Nat} {x : Nat → Int32} {S : St} (hA : MA w m x S) (y : Int32) : MC 4 mX9_seats 0 0 [.ref m, .int y] w (MCh w m x [1, 3, 4] (oCat S y)) := by
  obtain ⟨f, g, h, mO, mS, mF, mK, hfit⟩ := id hA
  have hwf := hfit.2.2.2.2
  have hnb := hwf.nb
  have hnt := hwf.nt
  refine MC_j pnX9 rfl rfl rfl (Or.inr (fun E w h => RP_no E w h)) ?_
  show J 4 mX9_seats 0 [some (.ref m), some (.int y)] [] w 0 0 _
  refine J_aload_n dX9_seats_0 rfl rfl ?_
  refine J_iload_n dX9_seats_1 rfl rfl ?_
  refine K_callV dX9_seats_2 YX9_isBlock kX9_91 (rc_of mO rfl) (c_X9_isBlock mO mS hfit _) rfl rfl (Nat.le_of_ble_eq_true rfl) (by decide) ?_
  refine J_if_ne (tgt := 10) dX9_seats_5 (by decide) (fun h5 => ?_) (fun h5 => ?_)
  · skip
    have e5 : (vi (sNb S) y).isSome = true := b2i_ne.mp h5
    obtain ⟨i, e5⟩ := isS_yes e5
    obtain ⟨hi, rfl⟩ := vi_some (by omega) e5
    refine J_aload_n dX9_seats_10 rfl rfl ?_
    refine J_iload_n dX9_seats_11 rfl rfl ?_
    refine J_iconst (v := nI 2) dX9_seats_12 (by decide) ?_
    refine K_callV dX9_seats_13 YX9_block kX9_71 (rc_of mO rfl) (c_X9_bCa mO mS hfit (show i < sNb S by omega)) rfl rfl (Nat.le_of_ble_eq_true rfl) (by decide) ?_
    refine J_iconst (v := nI 1) dX9_seats_16 (by decide) ?_
    refine J_icmp_ne (tgt := 22) dX9_seats_17 (by decide) (fun h17 => ?_) (fun h17 => ?_)
    · skip
      have e17 : sCa S i = false := b2i_n1 h17
      refine J_aload_n dX9_seats_22 rfl rfl ?_
      refine J_iload_n dX9_seats_23 rfl rfl ?_
      refine K_callV dX9_seats_24 YX9_inside kX9_99 (rc_of mO rfl) (c_X9_inside mO mS hfit (show i < 2 ^ 31 by omega)) rfl rfl (Nat.le_of_ble_eq_true rfl) (by decide) ?_
      refine J_iconst (v := (-1)) dX9_seats_27 (by decide) ?_
      refine J_icmp_eq (tgt := 33) dX9_seats_28 (by decide) (fun h28 => ?_) (fun h28 => ?_)
      · skip
        have e28 : tAt S i = none := (oI_m1 (tAt_b hwf)).mp h28
        refine J_aload_n dX9_seats_33 rfl rfl ?_
        refine J_getfield dX9_seats_34 fX9_7 mO rfl ?_
        refine J_iconst (v := nI 4) dX9_seats_37 (by decide) ?_
        refine J_iconst (v := nI 4) dX9_seats_38 (by decide) ?_
        refine J_iload_n dX9_seats_39 rfl rfl ?_
        refine K_imul (v := nI (4 * i)) dX9_seats_40 (nI_mul _ _) ?_
        refine K_iadd (v := nI (4 + (4 * i))) dX9_seats_41 (nI_add _ _) ?_
        refine J_iconst (v := nI 2) dX9_seats_42 (by decide) ?_
        refine K_iadd (v := nI (4 + (4 * i) + 2)) dX9_seats_43 (nI_add _ _) ?_
        refine J_iconst (v := nI 1) dX9_seats_44 (by decide) ?_
        refine K_iast dX9_seats_45 mS (by omega) (by decide) (fun w1 u1 => ?_)
        have mF := (u1.2.1 _ (by omega)).trans mF
        have mK := (u1.2.1 _ (by omega)).trans mK
        have mO := (u1.2.1 _ (by omega)).trans mO
        have mS := u1.1
        have hfit2 := fit_cat hfit hi (v := true) rfl
        refine J_aload_n dX9_seats_46 rfl rfl ?_
        refine J_aload_n dX9_seats_47 rfl rfl ?_
        refine K_callV dX9_seats_48 YX9_cats kX9_102 (rc_of mO rfl) (c_X9_cats mO mS hfit2) rfl rfl (Nat.le_of_ble_eq_true rfl) (by decide) ?_
        refine K_callVp dX9_seats_51 YX9_done kX9_88 (rc_of mO rfl) (c_X9_done mO _) rfl rfl (Nat.le_of_ble_eq_true rfl) (by decide) (fun v51 w51 q51 => ?_)
        obtain ⟨rfl, u51⟩ := q51
        have mO : w51.1 m = mCell m (va_up x 17 (nI (cnt (sNb S) (va_up (sCa S) i true)))) := u51.1
        have mS := (u51.2.1 _ (by omega)).trans mS
        have mF := (u51.2.1 _ (by omega)).trans mF
        have mK := (u51.2.1 _ (by omega)).trans mK
        exact J_ireturn dX9_seats_54 rfl rfl (MCh_ok (S' := sCat S i true) (y := nI (cnt (sNb S) (va_up (sCa S) i true))) (by simp [oCat, e5, e17, e28]) ⟨_, _, _, mO, mS, mF, mK, hfit2⟩ (((FA.rf w m).up u1 (by omega) (by omega)).up u51 (by omega) (by omega)))
      · skip
        obtain ⟨k28, e28⟩ : ∃ k_, tAt S i = some k_ := by
          cases q : tAt S i with
          | none => exact absurd ((oI_m1 (tAt_b hwf)).mpr q) h28
          | some k_ => exact ⟨k_, rfl⟩
        refine J_iconst (v := nI 3) dX9_seats_31 (by decide) ?_
        exact J_ireturn dX9_seats_32 rfl rfl (MCh_no (l := [1, 3, 4]) hA (FA.rf _ _) (c := 3) (by simp [oCat, e5, e17, e28]) rfl)
    · skip
      have e17 : sCa S i = true := b2i_1.mp h17
      refine J_iconst (v := nI 2) dX9_seats_20 (by decide) ?_
      exact J_ireturn dX9_seats_21 rfl rfl (MCh_no (l := [1, 3, 4]) hA (FA.rf _ _) (c := 2) (by simp [oCat, e5, e17]) rfl)
  · skip
    have e5 : (vi (sNb S) y).isSome = false := b2i_eq.mp h5
    have e5 := isS_no e5
    refine J_iconst (v := nI 1) dX9_seats_8 (by decide) ?_
    exact J_ireturn dX9_seats_9 rfl rfl (MCh_no (l := [1, 3, 4]) hA (FA.rf _ _) (c := 0) (by simp [oCat, e5]) rfl)

theorem c_X9_shoos {w : Wd} {m : Nat} {x : Nat → Int32} {S : St} (hA : MA w m x S) (y : Int32) : MC 4 mX9_shoos 0 0 [.ref m, .int y] w (MCh w m x [1, 5] (oShoo S y)) := by
  obtain ⟨f, g, h, mO, mS, mF, mK, hfit⟩ := id hA
  have hwf := hfit.2.2.2.2
  have hnb := hwf.nb
  have hnt := hwf.nt
  refine MC_j pnX9 rfl rfl rfl (Or.inr (fun E w h => RP_no E w h)) ?_
  show J 4 mX9_shoos 0 [some (.ref m), some (.int y)] [] w 0 0 _
  refine J_aload_n dX9_shoos_0 rfl rfl ?_
  refine J_iload_n dX9_shoos_1 rfl rfl ?_
  refine K_callV dX9_shoos_2 YX9_isBlock kX9_91 (rc_of mO rfl) (c_X9_isBlock mO mS hfit _) rfl rfl (Nat.le_of_ble_eq_true rfl) (by decide) ?_
  refine J_if_ne (tgt := 10) dX9_shoos_5 (by decide) (fun h5 => ?_) (fun h5 => ?_)
  · skip
    have e5 : (vi (sNb S) y).isSome = true := b2i_ne.mp h5
    obtain ⟨i, e5⟩ := isS_yes e5
    obtain ⟨hi, rfl⟩ := vi_some (by omega) e5
    refine J_aload_n dX9_shoos_10 rfl rfl ?_
    refine J_iload_n dX9_shoos_11 rfl rfl ?_
    refine J_iconst (v := nI 2) dX9_shoos_12 (by decide) ?_
    refine K_callV dX9_shoos_13 YX9_block kX9_71 (rc_of mO rfl) (c_X9_bCa mO mS hfit (show i < sNb S by omega)) rfl rfl (Nat.le_of_ble_eq_true rfl) (by decide) ?_
    refine J_if_ne (tgt := 21) dX9_shoos_16 (by decide) (fun h16 => ?_) (fun h16 => ?_)
    · skip
      have e16 : sCa S i = true := b2i_ne.mp h16
      refine J_aload_n dX9_shoos_21 rfl rfl ?_
      refine J_getfield dX9_shoos_22 fX9_7 mO rfl ?_
      refine J_iconst (v := nI 4) dX9_shoos_25 (by decide) ?_
      refine J_iconst (v := nI 4) dX9_shoos_26 (by decide) ?_
      refine J_iload_n dX9_shoos_27 rfl rfl ?_
      refine K_imul (v := nI (4 * i)) dX9_shoos_28 (nI_mul _ _) ?_
      refine K_iadd (v := nI (4 + (4 * i))) dX9_shoos_29 (nI_add _ _) ?_
      refine J_iconst (v := nI 2) dX9_shoos_30 (by decide) ?_
      refine K_iadd (v := nI (4 + (4 * i) + 2)) dX9_shoos_31 (nI_add _ _) ?_
      refine J_iconst (v := nI 0) dX9_shoos_32 (by decide) ?_
      refine K_iast dX9_shoos_33 mS (by omega) (by decide) (fun w1 u1 => ?_)
      have mF := (u1.2.1 _ (by omega)).trans mF
      have mK := (u1.2.1 _ (by omega)).trans mK
      have mO := (u1.2.1 _ (by omega)).trans mO
      have mS := u1.1
      have hfit2 := fit_cat hfit hi (v := false) rfl
      refine J_aload_n dX9_shoos_34 rfl rfl ?_
      refine J_aload_n dX9_shoos_35 rfl rfl ?_
      refine K_callV dX9_shoos_36 YX9_cats kX9_102 (rc_of mO rfl) (c_X9_cats mO mS hfit2) rfl rfl (Nat.le_of_ble_eq_true rfl) (by decide) ?_
      refine K_callVp dX9_shoos_39 YX9_done kX9_88 (rc_of mO rfl) (c_X9_done mO _) rfl rfl (Nat.le_of_ble_eq_true rfl) (by decide) (fun v39 w39 q39 => ?_)
      obtain ⟨rfl, u39⟩ := q39
      have mO : w39.1 m = mCell m (va_up x 17 (nI (cnt (sNb S) (va_up (sCa S) i false)))) := u39.1
      have mS := (u39.2.1 _ (by omega)).trans mS
      have mF := (u39.2.1 _ (by omega)).trans mF
      have mK := (u39.2.1 _ (by omega)).trans mK
      exact J_ireturn dX9_shoos_42 rfl rfl (MCh_ok (S' := sCat S i false) (y := nI (cnt (sNb S) (va_up (sCa S) i false))) (by simp [oShoo, e5, e16]) ⟨_, _, _, mO, mS, mF, mK, hfit2⟩ (((FA.rf w m).up u1 (by omega) (by omega)).up u39 (by omega) (by omega)))
    · skip
      have e16 : sCa S i = false := b2i_eq.mp h16
      refine J_iconst (v := nI 2) dX9_shoos_19 (by decide) ?_
      exact J_ireturn dX9_shoos_20 rfl rfl (MCh_no (l := [1, 5]) hA (FA.rf _ _) (c := 4) (by simp [oShoo, e5, e16]) rfl)
  · skip
    have e5 : (vi (sNb S) y).isSome = false := b2i_eq.mp h5
    have e5 := isS_no e5
    refine J_iconst (v := nI 1) dX9_shoos_8 (by decide) ?_
    exact J_ireturn dX9_shoos_9 rfl rfl (MCh_no (l := [1, 5]) hA (FA.rf _ _) (c := 0) (by simp [oShoo, e5]) rfl)

theorem c_X9_adds {w : Wd} {m : Nat} {x : Nat → Int32} {S : St} (hA : MA w m x S) (y : Int32) (c : Bool) : MC 3 mX9_adds 0 0 [.ref m, .int y, .int (b2i c)] w (MCh w m x [2, 3] (oAdd S y c)) := by
  obtain ⟨f, g, h, mO, mS, mF, mK, hfit⟩ := id hA
  have hwf := hfit.2.2.2.2
  have hnb := hwf.nb
  have hnt := hwf.nt
  refine MC_j pnX9 rfl rfl rfl (Or.inr (fun E w h => RP_no E w h)) ?_
  show J 3 mX9_adds 0 [some (.ref m), some (.int y), some (.int (b2i c)), none] [] w 0 0 _
  refine J_iload_n dX9_adds_0 rfl rfl ?_
  refine J_iconst (v := nI 1) dX9_adds_1 (by decide) ?_
  refine J_bipush (v := nI 9) dX9_adds_2 (by decide) ?_
  refine K_callS dX9_adds_4 YX9_in kX9_63 (c_X9_in19 y) rfl rfl (Nat.le_of_ble_eq_true rfl) (by decide) ?_
  refine J_if_ne (tgt := 12) dX9_adds_7 (by decide) (fun h7 => ?_) (fun h7 => ?_)
  · skip
    have e7 : (v19 y).isSome = true := b2i_ne.mp h7
    obtain ⟨k, ev, hk1, hk2, rfl⟩ := v19_of e7
    refine J_aload_n dX9_adds_12 rfl rfl ?_
    refine J_getfield dX9_adds_13 fX9_7 mO rfl ?_
    refine J_iconst (v := nI 0) dX9_adds_16 (by decide) ?_
    refine K_iald (v := nI (sNb S)) dX9_adds_17 mS (by omega) (by decide) hfit.1.1 ?_
    refine J_istore_n dX9_adds_18 rfl (by decide) rfl ?_
    refine J_iload_n dX9_adds_19 rfl rfl ?_
    refine J_bipush (v := nI 14) dX9_adds_20 (by decide) ?_
    refine J_icmp_ne (tgt := 27) dX9_adds_22 (by decide) (fun h22 => ?_) (fun h22 => ?_)
    · skip
      have h22 := mt (nI_eq (by omega) (by omega)).mpr h22
      refine J_aload_n dX9_adds_27 rfl rfl ?_
      refine J_getfield dX9_adds_28 fX9_7 mO rfl ?_
      refine J_iconst (v := nI 4) dX9_adds_31 (by decide) ?_
      refine J_iconst (v := nI 4) dX9_adds_32 (by decide) ?_
      refine J_iload_n dX9_adds_33 rfl rfl ?_
      refine K_imul (v := nI (4 * (sNb S))) dX9_adds_34 (nI_mul _ _) ?_
      refine K_iadd (v := nI (4 + (4 * (sNb S)))) dX9_adds_35 (nI_add _ _) ?_
      refine J_iconst (v := nI 0) dX9_adds_36 (by decide) ?_
      refine K_iadd (v := nI (4 + (4 * (sNb S)) + 0)) dX9_adds_37 (nI_add _ _) ?_
      refine J_iload_n dX9_adds_38 rfl rfl ?_
      refine K_iast dX9_adds_39 mS (by omega) (by decide) (fun w1 u1 => ?_)
      have mF := (u1.2.1 _ (by omega)).trans mF
      have mK := (u1.2.1 _ (by omega)).trans mK
      have mO := (u1.2.1 _ (by omega)).trans mO
      have mS := u1.1
      refine J_aload_n dX9_adds_40 rfl rfl ?_
      refine J_getfield dX9_adds_41 fX9_7 mO rfl ?_
      refine J_iconst (v := nI 4) dX9_adds_44 (by decide) ?_
      refine J_iconst (v := nI 4) dX9_adds_45 (by decide) ?_
      refine J_iload_n dX9_adds_46 rfl rfl ?_
      refine K_imul (v := nI (4 * (sNb S))) dX9_adds_47 (nI_mul _ _) ?_
      refine K_iadd (v := nI (4 + (4 * (sNb S)))) dX9_adds_48 (nI_add _ _) ?_
      refine J_iconst (v := nI 1) dX9_adds_49 (by decide) ?_
      refine K_iadd (v := nI (4 + (4 * (sNb S)) + 1)) dX9_adds_50 (nI_add _ _) ?_
      refine J_iload_n dX9_adds_51 rfl rfl ?_
      refine K_iast dX9_adds_52 mS (by omega) (by decide) (fun w2 u2 => ?_)
      have mF := (u2.2.1 _ (by omega)).trans mF
      have mK := (u2.2.1 _ (by omega)).trans mK
      have mO := (u2.2.1 _ (by omega)).trans mO
      have mS := u2.1
      refine J_aload_n dX9_adds_53 rfl rfl ?_
      refine J_getfield dX9_adds_54 fX9_7 mO rfl ?_
      refine J_iconst (v := nI 4) dX9_adds_57 (by decide) ?_
      refine J_iconst (v := nI 4) dX9_adds_58 (by decide) ?_
      refine J_iload_n dX9_adds_59 rfl rfl ?_
      refine K_imul (v := nI (4 * (sNb S))) dX9_adds_60 (nI_mul _ _) ?_
      refine K_iadd (v := nI (4 + (4 * (sNb S)))) dX9_adds_61 (nI_add _ _) ?_
      refine J_iconst (v := nI 2) dX9_adds_62 (by decide) ?_
      refine K_iadd (v := nI (4 + (4 * (sNb S)) + 2)) dX9_adds_63 (nI_add _ _) ?_
      refine J_iconst (v := nI 0) dX9_adds_64 (by decide) ?_
      refine K_iast dX9_adds_65 mS (by omega) (by decide) (fun w3 u3 => ?_)
      have mF := (u3.2.1 _ (by omega)).trans mF
      have mK := (u3.2.1 _ (by omega)).trans mK
      have mO := (u3.2.1 _ (by omega)).trans mO
      have mS := u3.1
      refine J_aload_n dX9_adds_66 rfl rfl ?_
      refine J_getfield dX9_adds_67 fX9_7 mO rfl ?_
      refine J_iconst (v := nI 4) dX9_adds_70 (by decide) ?_
      refine J_iconst (v := nI 4) dX9_adds_71 (by decide) ?_
      refine J_iload_n dX9_adds_72 rfl rfl ?_
      refine K_imul (v := nI (4 * (sNb S))) dX9_adds_73 (nI_mul _ _) ?_
      refine K_iadd (v := nI (4 + (4 * (sNb S)))) dX9_adds_74 (nI_add _ _) ?_
      refine J_iconst (v := nI 3) dX9_adds_75 (by decide) ?_
      refine K_iadd (v := nI (4 + (4 * (sNb S)) + 3)) dX9_adds_76 (nI_add _ _) ?_
      refine J_iconst (v := nI 0) dX9_adds_77 (by decide) ?_
      refine K_iast dX9_adds_78 mS (by omega) (by decide) (fun w4 u4 => ?_)
      have mF := (u4.2.1 _ (by omega)).trans mF
      have mK := (u4.2.1 _ (by omega)).trans mK
      have mO := (u4.2.1 _ (by omega)).trans mO
      have mS := u4.1
      refine J_aload_n dX9_adds_79 rfl rfl ?_
      refine J_getfield dX9_adds_80 fX9_7 mO rfl ?_
      refine J_bipush (v := nI 60) dX9_adds_83 (by decide) ?_
      refine J_iload_n dX9_adds_85 rfl rfl ?_
      refine K_iadd (v := nI (60 + (sNb S))) dX9_adds_86 (nI_add _ _) ?_
      refine J_iconst (v := nI 0) dX9_adds_87 (by decide) ?_
      refine K_iast dX9_adds_88 mS (by omega) (by decide) (fun w5 u5 => ?_)
      have mF := (u5.2.1 _ (by omega)).trans mF
      have mK := (u5.2.1 _ (by omega)).trans mK
      have mO := (u5.2.1 _ (by omega)).trans mO
      have mS := u5.1
      refine J_aload_n dX9_adds_89 rfl rfl ?_
      refine J_getfield dX9_adds_90 fX9_7 mO rfl ?_
      refine J_iconst (v := nI 0) dX9_adds_93 (by decide) ?_
      refine J_iload_n dX9_adds_94 rfl rfl ?_
      refine J_iconst (v := nI 1) dX9_adds_95 (by decide) ?_
      refine K_iadd (v := nI (sNb S + 1)) dX9_adds_96 (nI_add _ _) ?_
      refine K_iast dX9_adds_97 mS (by omega) (by decide) (fun w6 u6 => ?_)
      have mF := (u6.2.1 _ (by omega)).trans mF
      have mK := (u6.2.1 _ (by omega)).trans mK
      have mO := (u6.2.1 _ (by omega)).trans mO
      have mS := u6.1
      have hfit2 := fit_add hfit (by omega) hk1 hk2 (c := c) (fun i z1 z2 z3 => by
        rw [up_n _ _ z1, up_n _ _ z3, up_n _ _ (by omega), up_n _ _ (by omega), up_n _ _ (by omega), up_n _ _ (by omega)]) (up_s _ _ _)
        ((up_n _ _ (by omega)).trans ((up_n _ _ (by omega)).trans ((up_n _ _ (by omega)).trans ((up_n _ _ (by omega)).trans ((up_n _ _ (by omega)).trans (up_s _ _ _))))))
        ((up_n _ _ (by omega)).trans ((up_n _ _ (by omega)).trans ((up_n _ _ (by omega)).trans ((up_n _ _ (by omega)).trans (up_s _ _ _)))))
        ((up_n _ _ (by omega)).trans ((up_n _ _ (by omega)).trans ((up_n _ _ (by omega)).trans (up_s _ _ _))))
        ((up_n _ _ (by omega)).trans ((up_n _ _ (by omega)).trans (up_s _ _ _)))
        ((up_n _ _ (by omega)).trans (up_s _ _ _))
      refine J_aload_n dX9_adds_98 rfl rfl ?_
      refine J_iload_n dX9_adds_99 rfl rfl ?_
      refine K_callVp dX9_adds_100 YX9_done kX9_88 (rc_of mO rfl) (c_X9_done mO _) rfl rfl (Nat.le_of_ble_eq_true rfl) (by decide) (fun v100 w100 q100 => ?_)
      obtain ⟨rfl, u100⟩ := q100
      have mO : w100.1 m = mCell m (va_up x 17 (nI (sNb S))) := u100.1
      have mS := (u100.2.1 _ (by omega)).trans mS
      have mF := (u100.2.1 _ (by omega)).trans mF
      have mK := (u100.2.1 _ (by omega)).trans mK
      exact J_ireturn dX9_adds_103 rfl rfl (MCh_ok (S' := sAdd S k c) (y := nI (sNb S)) (by simp [oAdd, ev, h22]) ⟨_, _, _, mO, mS, mF, mK, hfit2⟩ ((((((((FA.rf w m).up u1 (by omega) (by omega)).up u2 (by omega) (by omega)).up u3 (by omega) (by omega)).up u4 (by omega) (by omega)).up u5 (by omega) (by omega)).up u6 (by omega) (by omega)).up u100 (by omega) (by omega)))
    · skip
      have h22 := (nI_eq (by omega) (by omega)).mp h22
      refine J_iconst (v := nI 2) dX9_adds_25 (by decide) ?_
      exact J_ireturn dX9_adds_26 rfl rfl (MCh_no (l := [2, 3]) hA (FA.rf _ _) (c := 2) (by simp [oAdd, ev, h22]) rfl)
  · skip
    have e7 : (v19 y).isSome = false := b2i_eq.mp h7
    have ev := isS_no e7
    refine J_iconst (v := nI 1) dX9_adds_10 (by decide) ?_
    exact J_ireturn dX9_adds_11 rfl rfl (MCh_no (l := [2, 3]) hA (FA.rf _ _) (c := 1) (by simp [oAdd, ev]) rfl)

end JMCHANGE

/-! THE MODEL: its questions -/
section JMASK
theorem c_X9_askedBlock_no {w : Wd} {m : Nat} {x : Nat → Int32} {f : Nat → Int32} {S : St} (mO : w.1 m = mCell m x) (mS : w.1 (m + 1) = .inl (0, 116, .inl f)) (hfit : FitM f S) {y : Int32} (e3 : vi (sNb S) y = none) (k : Nat) : MC 4 mX9_askedBlock 0 0 [.ref m, .int y, .int (nI k)] w (RP (fun v w' => v = some (.int (nI 0)) ∧ Up w w' m (mCell m (va_up x 0 (nI 1))))) := by
  have hwf := hfit.2.2.2.2
  have hnb := hwf.nb
  have hnt := hwf.nt
  refine MC_j pnX9 rfl rfl rfl (Or.inr (fun E w h => RP_no E w h)) ?_
  show J 4 mX9_askedBlock 0 [some (.ref m), some (.int y), some (.int (nI k))] [] w 0 0 _
  refine J_aload_n dX9_askedBlock_0 rfl rfl ?_
  refine J_aload_n dX9_askedBlock_1 rfl rfl ?_
  refine J_iload_n dX9_askedBlock_2 rfl rfl ?_
  refine K_callV dX9_askedBlock_3 YX9_isBlock kX9_91 (rc_of mO rfl) (c_X9_isBlock mO mS hfit _) rfl rfl (Nat.le_of_ble_eq_true rfl) (by decide) ?_
  refine J_if_eq (tgt := 13) dX9_askedBlock_6 (by decide) (fun h6 => ?_) (fun h6 => absurd (b2i_ne.mp h6) (by rw [e3]; decide))
  refine J_iconst (v := nI 1) dX9_askedBlock_13 (by decide) ?_
  refine K_putI dX9_askedBlock_14 fX9_47 (Or.inl rfl) mO (Nat.le_of_ble_eq_true rfl) (fun w1 u1 => ?_)
  have mO := u1.1
  have mS := (u1.2.1 _ (by omega)).trans mS
  have mO : w1.1 m = .inr (9, [.int (nI 1), .ref (m + 1), .ref (m + 2), .ref (m + 3), .ref (m + 4), .ref (m + 5), .int (x 6), .int (x 7), .ref (m + 6), .ref (m + 7), .ref (m + 8), .ref (m + 9), .ref (m + 10), .int (x 13), .int (x 14), .int (x 15), .int (x 16), .int (x 17), .int (x 18), .int (x 19), .int (x 20), .int (x 21)]) := mO
  refine J_aload_n dX9_askedBlock_17 rfl rfl ?_
  refine J_getfield dX9_askedBlock_18 fX9_47 mO rfl ?_
  refine J_if_le (tgt := 28) dX9_askedBlock_21 (by decide) (fun h21 => absurd h21 (by decide)) (fun h21 => ?_)
  refine J_iconst (v := nI 0) dX9_askedBlock_24 (by decide) ?_
  refine J_goto (tgt := 34) dX9_askedBlock_25 (by decide) ?_
  exact J_ireturn dX9_askedBlock_34 rfl rfl (RP_i ⟨rfl, u1⟩)

theorem c_X9_askedBlock_ok {w : Wd} {m : Nat} {x : Nat → Int32} {f : Nat → Int32} {S : St} (mO : w.1 m = mCell m x) (mS : w.1 (m + 1) = .inl (0, 116, .inl f)) (hfit : FitM f S) {i : Nat} (hi : i < sNb S) {k : Nat} (hk : k < 4) : MC 4 mX9_askedBlock 0 0 [.ref m, .int (nI i), .int (nI k)] w (RP (fun v w' => v = some (.int (f (4 + 4 * i + k))) ∧ Up w w' m (mCell m (va_up x 0 (nI 0))))) := by
  have hwf := hfit.2.2.2.2
  have hnb := hwf.nb
  have hnt := hwf.nt
  refine MC_j pnX9 rfl rfl rfl (Or.inr (fun E w h => RP_no E w h)) ?_
  show J 4 mX9_askedBlock 0 [some (.ref m), some (.int (nI i)), some (.int (nI k))] [] w 0 0 _
  refine J_aload_n dX9_askedBlock_0 rfl rfl ?_
  refine J_aload_n dX9_askedBlock_1 rfl rfl ?_
  refine J_iload_n dX9_askedBlock_2 rfl rfl ?_
  refine K_callV dX9_askedBlock_3 YX9_isBlock kX9_91 (rc_of mO rfl) (c_X9_isBlock mO mS hfit _) rfl rfl (Nat.le_of_ble_eq_true rfl) (by decide) ?_
  refine J_if_eq (tgt := 13) dX9_askedBlock_6 (by decide) (fun h6 => absurd (b2i_eq.mp h6) (by rw [vi_nI hi (by omega)]; exact fun z => by cases z)) (fun h6 => ?_)
  refine J_iconst (v := nI 0) dX9_askedBlock_9 (by decide) ?_
  refine J_goto (tgt := 14) dX9_askedBlock_10 (by decide) ?_
  refine K_putI dX9_askedBlock_14 fX9_47 (Or.inl rfl) mO (Nat.le_of_ble_eq_true rfl) (fun w1 u1 => ?_)
  have mO := u1.1
  have mS := (u1.2.1 _ (by omega)).trans mS
  have mO : w1.1 m = .inr (9, [.int (nI 0), .ref (m + 1), .ref (m + 2), .ref (m + 3), .ref (m + 4), .ref (m + 5), .int (x 6), .int (x 7), .ref (m + 6), .ref (m + 7), .ref (m + 8), .ref (m + 9), .ref (m + 10), .int (x 13), .int (x 14), .int (x 15), .int (x 16), .int (x 17), .int (x 18), .int (x 19), .int (x 20), .int (x 21)]) := mO
  refine J_aload_n dX9_askedBlock_17 rfl rfl ?_
  refine J_getfield dX9_askedBlock_18 fX9_47 mO rfl ?_
  refine J_if_le (tgt := 28) dX9_askedBlock_21 (by decide) (fun h21 => ?_) (fun h21 => absurd h21 (by decide))
  refine J_aload_n dX9_askedBlock_28 rfl rfl ?_
  refine J_iload_n dX9_askedBlock_29 rfl rfl ?_
  refine J_iload_n dX9_askedBlock_30 rfl rfl ?_
  refine K_callV dX9_askedBlock_31 YX9_block kX9_71 (rc_of mO rfl) (c_X9_block (x := va_up x 0 (nI 0)) mO mS (k := k) (by omega)) rfl rfl (Nat.le_of_ble_eq_true rfl) (by decide) ?_
  exact J_ireturn dX9_askedBlock_34 rfl rfl (RP_i ⟨rfl, u1⟩)

theorem c_X9_asked_no {w : Wd} {m : Nat} {x : Nat → Int32} {f : Nat → Int32} {S : St} (mO : w.1 m = mCell m x) (mS : w.1 (m + 1) = .inl (0, 116, .inl f)) (hfit : FitM f S) {y : Int32} (e3 : vi (sNt S) y = none) (k : Nat) : MC 4 mX9_asked 0 0 [.ref m, .int y, .int (nI k)] w (RP (fun v w' => v = some (.int (nI 0)) ∧ Up w w' m (mCell m (va_up x 0 (nI 1))))) := by
  have hwf := hfit.2.2.2.2
  have hnb := hwf.nb
  have hnt := hwf.nt
  refine MC_j pnX9 rfl rfl rfl (Or.inr (fun E w h => RP_no E w h)) ?_
  show J 4 mX9_asked 0 [some (.ref m), some (.int y), some (.int (nI k))] [] w 0 0 _
  refine J_aload_n dX9_asked_0 rfl rfl ?_
  refine J_aload_n dX9_asked_1 rfl rfl ?_
  refine J_iload_n dX9_asked_2 rfl rfl ?_
  refine K_callV dX9_asked_3 YX9_isTrain kX9_109 (rc_of mO rfl) (c_X9_isTrain mO mS hfit _) rfl rfl (Nat.le_of_ble_eq_true rfl) (by decide) ?_
  refine J_if_eq (tgt := 13) dX9_asked_6 (by decide) (fun h6 => ?_) (fun h6 => absurd (b2i_ne.mp h6) (by rw [e3]; decide))
  refine J_iconst (v := nI 1) dX9_asked_13 (by decide) ?_
  refine K_putI dX9_asked_14 fX9_47 (Or.inl rfl) mO (Nat.le_of_ble_eq_true rfl) (fun w1 u1 => ?_)
  have mO := u1.1
  have mS := (u1.2.1 _ (by omega)).trans mS
  have mO : w1.1 m = .inr (9, [.int (nI 1), .ref (m + 1), .ref (m + 2), .ref (m + 3), .ref (m + 4), .ref (m + 5), .int (x 6), .int (x 7), .ref (m + 6), .ref (m + 7), .ref (m + 8), .ref (m + 9), .ref (m + 10), .int (x 13), .int (x 14), .int (x 15), .int (x 16), .int (x 17), .int (x 18), .int (x 19), .int (x 20), .int (x 21)]) := mO
  refine J_aload_n dX9_asked_17 rfl rfl ?_
  refine J_getfield dX9_asked_18 fX9_47 mO rfl ?_
  refine J_if_le (tgt := 28) dX9_asked_21 (by decide) (fun h21 => absurd h21 (by decide)) (fun h21 => ?_)
  refine J_iconst (v := nI 0) dX9_asked_24 (by decide) ?_
  refine J_goto (tgt := 34) dX9_asked_25 (by decide) ?_
  exact J_ireturn dX9_asked_34 rfl rfl (RP_i ⟨rfl, u1⟩)

theorem c_X9_asked_ok {w : Wd} {m : Nat} {x : Nat → Int32} {f : Nat → Int32} {S : St} (mO : w.1 m = mCell m x) (mS : w.1 (m + 1) = .inl (0, 116, .inl f)) (hfit : FitM f S) {i : Nat} (hi : i < sNt S) {k : Nat} (hk : k < 7) : MC 4 mX9_asked 0 0 [.ref m, .int (nI i), .int (nI k)] w (RP (fun v w' => v = some (.int (f (74 + 7 * i + k))) ∧ Up w w' m (mCell m (va_up x 0 (nI 0))))) := by
  have hwf := hfit.2.2.2.2
  have hnb := hwf.nb
  have hnt := hwf.nt
  refine MC_j pnX9 rfl rfl rfl (Or.inr (fun E w h => RP_no E w h)) ?_
  show J 4 mX9_asked 0 [some (.ref m), some (.int (nI i)), some (.int (nI k))] [] w 0 0 _
  refine J_aload_n dX9_asked_0 rfl rfl ?_
  refine J_aload_n dX9_asked_1 rfl rfl ?_
  refine J_iload_n dX9_asked_2 rfl rfl ?_
  refine K_callV dX9_asked_3 YX9_isTrain kX9_109 (rc_of mO rfl) (c_X9_isTrain mO mS hfit _) rfl rfl (Nat.le_of_ble_eq_true rfl) (by decide) ?_
  refine J_if_eq (tgt := 13) dX9_asked_6 (by decide) (fun h6 => absurd (b2i_eq.mp h6) (by rw [vi_nI hi (by omega)]; exact fun z => by cases z)) (fun h6 => ?_)
  refine J_iconst (v := nI 0) dX9_asked_9 (by decide) ?_
  refine J_goto (tgt := 14) dX9_asked_10 (by decide) ?_
  refine K_putI dX9_asked_14 fX9_47 (Or.inl rfl) mO (Nat.le_of_ble_eq_true rfl) (fun w1 u1 => ?_)
  have mO := u1.1
  have mS := (u1.2.1 _ (by omega)).trans mS
  have mO : w1.1 m = .inr (9, [.int (nI 0), .ref (m + 1), .ref (m + 2), .ref (m + 3), .ref (m + 4), .ref (m + 5), .int (x 6), .int (x 7), .ref (m + 6), .ref (m + 7), .ref (m + 8), .ref (m + 9), .ref (m + 10), .int (x 13), .int (x 14), .int (x 15), .int (x 16), .int (x 17), .int (x 18), .int (x 19), .int (x 20), .int (x 21)]) := mO
  refine J_aload_n dX9_asked_17 rfl rfl ?_
  refine J_getfield dX9_asked_18 fX9_47 mO rfl ?_
  refine J_if_le (tgt := 28) dX9_asked_21 (by decide) (fun h21 => ?_) (fun h21 => absurd h21 (by decide))
  refine J_aload_n dX9_asked_28 rfl rfl ?_
  refine J_iload_n dX9_asked_29 rfl rfl ?_
  refine J_iload_n dX9_asked_30 rfl rfl ?_
  refine K_callV dX9_asked_31 YX9_train kX9_75 (rc_of mO rfl) (c_X9_train (x := va_up x 0 (nI 0)) mO mS (k := k) (by omega)) rfl rfl (Nat.le_of_ble_eq_true rfl) (by decide) ?_
  exact J_ireturn dX9_asked_34 rfl rfl (RP_i ⟨rfl, u1⟩)

end JMASK

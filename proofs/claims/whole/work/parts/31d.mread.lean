/-! THE MODEL: what is asked of it -/
section JMREAD
theorem c_X9_inside {w : Wd} {m : Nat} {x : Nat → Int32} {f : Nat → Int32} {S : St} (mO : w.1 m = mCell m x) (mS : w.1 (m + 1) = .inl (0, 116, .inl f)) (hfit : FitM f S) {b : Nat} (hb : b < 2 ^ 31) : MC 3 mX9_inside 0 0 [.ref m, .int (nI b)] w (RI (.int (oI (tAt S b))) w) := by
  have hwf := hfit.2.2.2.2
  have hnb := hwf.nb
  have hnt := hwf.nt
  refine MC_j pnX9 rfl rfl rfl (Or.inr (fun E w h => by cases h.1)) ?_
  show J 3 mX9_inside 0 [some (.ref m), some (.int (nI b)), none] [] w 0 0 _
  have loop : ∀ n k, sNt S < n + k → k ≤ sNt S → (∀ j, j < k → (sPl S j == b) = false) → J 3 mX9_inside 2 [some (.ref m), some (.int (nI b)), some (.int (nI k))] [] w 0 0 (RI (.int (oI (tAt S b))) w) := by
    intro n
    induction n with
    | zero => intros; omega
    | succ n ih =>
      intro k q1 q2 hno
      refine J_iload_n dX9_inside_2 rfl rfl ?_
      refine J_aload_n dX9_inside_3 rfl rfl ?_
      refine J_getfield dX9_inside_4 fX9_7 mO rfl ?_
      refine J_iconst (v := nI 1) dX9_inside_7 (by decide) ?_
      refine K_iald (v := nI (sNt S)) dX9_inside_8 mS (by omega) (by decide) hfit.1.2.1 ?_
      refine J_icmp_ge (tgt := 30) dX9_inside_9 (by decide) (fun h9 => ?_) (fun h9 => ?_)
      · skip
        have h9 := (nI_leI (by omega) (by omega)).mp h9
        have ek : k = sNt S := by omega
        refine J_iconst (v := (-1)) dX9_inside_30 (by decide) ?_
        exact J_ireturn dX9_inside_31 rfl rfl ⟨by rw [show tAt S b = none from fnd_none (fun j hj => hno j (by omega))]; rfl, rfl⟩
      · skip
        have h9 := mt (nI_leI (by omega) (by omega)).mpr h9
        have hpt := hwf.2.2.2.2.1 k (by omega)
        refine J_aload_n dX9_inside_12 rfl rfl ?_
        refine J_iload_n dX9_inside_13 rfl rfl ?_
        refine J_iconst (v := nI 0) dX9_inside_14 (by decide) ?_
        refine K_callV dX9_inside_15 YX9_train kX9_75 (rc_of mO rfl) (c_X9_tPl mO mS hfit (show k < sNt S by omega)) rfl rfl (Nat.le_of_ble_eq_true rfl) (by decide) ?_
        refine J_iload_n dX9_inside_18 rfl rfl ?_
        refine J_icmp_ne (tgt := 24) dX9_inside_19 (by decide) (fun h19 => ?_) (fun h19 => ?_)
        · skip
          have h19 := mt (nI_eq (by omega) (by omega)).mpr h19
          refine J_iinc (v := nI (k + 1)) dX9_inside_24 rfl (nI_succ _).symm (by decide) rfl ?_
          refine J_goto (tgt := 2) dX9_inside_27 (by decide) ?_
          exact ih (k + 1) (by omega) (by omega) (fun j hj => by
            by_cases e : j = k
            · subst e; simpa using h19
            · exact hno j (by omega))
        · skip
          have h19 := (nI_eq (by omega) (by omega)).mp h19
          refine J_iload_n dX9_inside_22 rfl rfl ?_
          exact J_ireturn dX9_inside_23 rfl rfl ⟨by rw [show tAt S b = some k from fnd_some (show k < sNt S by omega) (by rw [h19]; exact beq_self_eq_true _) hno]; rfl, rfl⟩
  refine J_iconst (v := nI 0) dX9_inside_0 (by decide) ?_
  refine J_istore_n dX9_inside_1 rfl (by decide) rfl ?_
  exact loop (sNt S + 1) 0 (by omega) (by omega) (fun j hj => by omega)

theorem c_X9_holder {w : Wd} {m : Nat} {x : Nat → Int32} {f : Nat → Int32} {S : St} (mO : w.1 m = mCell m x) (mS : w.1 (m + 1) = .inl (0, 116, .inl f)) (hfit : FitM f S) {b : Nat} (hb : b < sNb S) : MC 3 mX9_holder 0 0 [.ref m, .int (nI b)] w (RI (.int (oI (hOf S b))) w) := by
  have hwf := hfit.2.2.2.2
  have hnb := hwf.nb
  have hnt := hwf.nt
  refine MC_j pnX9 rfl rfl rfl (Or.inr (fun E w h => by cases h.1)) ?_
  show J 3 mX9_holder 0 [some (.ref m), some (.int (nI b))] [] w 0 0 _
  refine J_aload_n dX9_holder_0 rfl rfl ?_
  refine J_iload_n dX9_holder_1 rfl rfl ?_
  refine J_iconst (v := nI 3) dX9_holder_2 (by decide) ?_
  refine K_callV dX9_holder_3 YX9_block kX9_71 (rc_of mO rfl) (c_X9_bHo mO mS hfit hb) rfl rfl (Nat.le_of_ble_eq_true rfl) (by decide) ?_
  refine J_iconst (v := nI 1) dX9_holder_6 (by decide) ?_
  refine K_isub (v := oI (hOf S b)) dX9_holder_7 (hN_sub _) ?_
  exact J_ireturn dX9_holder_8 rfl rfl ⟨rfl, rfl⟩

theorem c_X9_goalOf {w : Wd} {m : Nat} {x : Nat → Int32} {f : Nat → Int32} {S : St} (mO : w.1 m = mCell m x) (mS : w.1 (m + 1) = .inl (0, 116, .inl f)) (hfit : FitM f S) {t : Nat} (ht : t < sNt S) : MC 3 mX9_goalOf 0 0 [.ref m, .int (nI t)] w (RI (.int (oI (sGo S t))) w) := by
  have hwf := hfit.2.2.2.2
  have hnb := hwf.nb
  have hnt := hwf.nt
  refine MC_j pnX9 rfl rfl rfl (Or.inr (fun E w h => by cases h.1)) ?_
  show J 3 mX9_goalOf 0 [some (.ref m), some (.int (nI t))] [] w 0 0 _
  refine J_aload_n dX9_goalOf_0 rfl rfl ?_
  refine J_iload_n dX9_goalOf_1 rfl rfl ?_
  refine J_iconst (v := nI 3) dX9_goalOf_2 (by decide) ?_
  refine K_callV dX9_goalOf_3 YX9_train kX9_75 (rc_of mO rfl) (c_X9_tGo mO mS hfit ht) rfl rfl (Nat.le_of_ble_eq_true rfl) (by decide) ?_
  refine J_iconst (v := nI 1) dX9_goalOf_6 (by decide) ?_
  refine K_isub (v := oI (sGo S t)) dX9_goalOf_7 (hN_sub _) ?_
  exact J_ireturn dX9_goalOf_8 rfl rfl ⟨rfl, rfl⟩

theorem c_X9_held {w : Wd} {m : Nat} {x : Nat → Int32} {f : Nat → Int32} {S : St} (mO : w.1 m = mCell m x) (mS : w.1 (m + 1) = .inl (0, 116, .inl f)) (hfit : FitM f S) {t : Nat} (ht : t < sNt S) : MC 4 mX9_held 0 0 [.ref m, .int (nI t)] w (RI (.int (oI (sHo S t))) w) := by
  have hwf := hfit.2.2.2.2
  have hnb := hwf.nb
  have hnt := hwf.nt
  refine MC_j pnX9 rfl rfl rfl (Or.inr (fun E w h => by cases h.1)) ?_
  show J 4 mX9_held 0 [some (.ref m), some (.int (nI t)), none] [] w 0 0 _
  have loop : ∀ n k, sNb S < n + k → k ≤ sNb S → (∀ j, j < k → (hOf S j == some t) = false) → J 4 mX9_held 2 [some (.ref m), some (.int (nI t)), some (.int (nI k))] [] w 0 0 (RI (.int (oI (sHo S t))) w) := by
    intro n
    induction n with
    | zero => intros; omega
    | succ n ih =>
      intro k q1 q2 hno
      refine J_iload_n dX9_held_2 rfl rfl ?_
      refine J_aload_n dX9_held_3 rfl rfl ?_
      refine J_getfield dX9_held_4 fX9_7 mO rfl ?_
      refine J_iconst (v := nI 0) dX9_held_7 (by decide) ?_
      refine K_iald (v := nI (sNb S)) dX9_held_8 mS (by omega) (by decide) hfit.1.1 ?_
      refine J_icmp_ge (tgt := 29) dX9_held_9 (by decide) (fun h9 => ?_) (fun h9 => ?_)
      · skip
        have h9 := (nI_leI (by omega) (by omega)).mp h9
        have ek : k = sNb S := by omega
        refine J_iconst (v := (-1)) dX9_held_29 (by decide) ?_
        exact J_ireturn dX9_held_30 rfl rfl ⟨by rw [← held_is hwf ht, show fnd (sNb S) (fun b => hOf S b == some t) = none from fnd_none (fun j hj => hno j (by omega))]; rfl, rfl⟩
      · skip
        have h9 := mt (nI_leI (by omega) (by omega)).mpr h9
        refine J_aload_n dX9_held_12 rfl rfl ?_
        refine J_iload_n dX9_held_13 rfl rfl ?_
        refine K_callV dX9_held_14 YX9_holder kX9_78 (rc_of mO rfl) (c_X9_holder mO mS hfit (show k < sNb S by omega)) rfl rfl (Nat.le_of_ble_eq_true rfl) (by decide) ?_
        refine J_iload_n dX9_held_17 rfl rfl ?_
        refine J_icmp_ne (tgt := 23) dX9_held_18 (by decide) (fun h18 => ?_) (fun h18 => ?_)
        · skip
          have e18 : ¬ hOf S k = some t := mt (oI_nI (hOf_b hwf) (by omega)).mpr h18
          refine J_iinc (v := nI (k + 1)) dX9_held_23 rfl (nI_succ _).symm (by decide) rfl ?_
          refine J_goto (tgt := 2) dX9_held_26 (by decide) ?_
          exact ih (k + 1) (by omega) (by omega) (fun j hj => by
            by_cases e : j = k
            · subst e; simpa using e18
            · exact hno j (by omega))
        · skip
          have e18 : hOf S k = some t := (oI_nI (hOf_b hwf) (by omega)).mp h18
          refine J_iload_n dX9_held_21 rfl rfl ?_
          exact J_ireturn dX9_held_22 rfl rfl ⟨by rw [← held_is hwf ht, show fnd (sNb S) (fun b => hOf S b == some t) = some k from fnd_some (by omega) (by rw [e18]; exact beq_self_eq_true _) hno]; rfl, rfl⟩
  refine J_iconst (v := nI 0) dX9_held_0 (by decide) ?_
  refine J_istore_n dX9_held_1 rfl (by decide) rfl ?_
  exact loop (sNb S + 1) 0 (by omega) (by omega) (fun j hj => by omega)

theorem c_X9_sign {w : Wd} {m : Nat} {x : Nat → Int32} {f : Nat → Int32} {S : St} (mO : w.1 m = mCell m x) (mS : w.1 (m + 1) = .inl (0, 116, .inl f)) (hfit : FitM f S) {b : Nat} (hb : b < sNb S) : MC 4 mX9_sign 0 0 [.ref m, .int (nI b)] w (RI (.int (nI (sgn S b))) w) := by
  have hwf := hfit.2.2.2.2
  have hnb := hwf.nb
  have hnt := hwf.nt
  refine MC_j pnX9 rfl rfl rfl (Or.inr (fun E w h => by cases h.1)) ?_
  show J 4 mX9_sign 0 [some (.ref m), some (.int (nI b))] [] w 0 0 _
  refine J_aload_n dX9_sign_0 rfl rfl ?_
  refine J_iload_n dX9_sign_1 rfl rfl ?_
  refine J_iconst (v := nI 2) dX9_sign_2 (by decide) ?_
  refine K_callV dX9_sign_3 YX9_block kX9_71 (rc_of mO rfl) (c_X9_bCa mO mS hfit (show b < sNb S by omega)) rfl rfl (Nat.le_of_ble_eq_true rfl) (by decide) ?_
  refine J_iconst (v := nI 1) dX9_sign_6 (by decide) ?_
  refine J_icmp_ne (tgt := 15) dX9_sign_7 (by decide) (fun h7 => ?_) (fun h7 => ?_)
  · skip
    have e7 : sCa S b = false := b2i_n1 h7
    refine J_aload_n dX9_sign_15 rfl rfl ?_
    refine J_iload_n dX9_sign_16 rfl rfl ?_
    refine K_callV dX9_sign_17 YX9_inside kX9_99 (rc_of mO rfl) (c_X9_inside mO mS hfit (show b < 2 ^ 31 by omega)) rfl rfl (Nat.le_of_ble_eq_true rfl) (by decide) ?_
    refine J_iconst (v := (-1)) dX9_sign_20 (by decide) ?_
    refine J_icmp_eq (tgt := 29) dX9_sign_21 (by decide) (fun h21 => ?_) (fun h21 => ?_)
    · skip
      have e21 : tAt S b = none := (oI_m1 (tAt_b hwf)).mp h21
      refine J_aload_n dX9_sign_29 rfl rfl ?_
      refine J_iload_n dX9_sign_30 rfl rfl ?_
      refine K_callV dX9_sign_31 YX9_holder kX9_78 (rc_of mO rfl) (c_X9_holder mO mS hfit (show b < sNb S by omega)) rfl rfl (Nat.le_of_ble_eq_true rfl) (by decide) ?_
      refine J_iconst (v := (-1)) dX9_sign_34 (by decide) ?_
      refine J_icmp_eq (tgt := 43) dX9_sign_35 (by decide) (fun h35 => ?_) (fun h35 => ?_)
      · skip
        have e35 : hOf S b = none := (oI_m1 (hOf_b hwf)).mp h35
        refine J_bipush (v := nI 102) dX9_sign_43 (by decide) ?_
        exact J_ireturn dX9_sign_45 rfl rfl ⟨by rw [show sgn S b = 102 from by simp [sgn, e7, e21, e35]], rfl⟩
      · skip
        obtain ⟨k35, e35⟩ : ∃ k_, hOf S b = some k_ := by
          cases q : hOf S b with
          | none => exact absurd ((oI_m1 (hOf_b hwf)).mpr q) h35
          | some k_ => exact ⟨k_, rfl⟩
        refine J_bipush (v := nI 114) dX9_sign_38 (by decide) ?_
        refine J_goto (tgt := 45) dX9_sign_40 (by decide) ?_
        exact J_ireturn dX9_sign_45 rfl rfl ⟨by rw [show sgn S b = 114 from by simp [sgn, e7, e21, e35]], rfl⟩
    · skip
      obtain ⟨k21, e21⟩ : ∃ k_, tAt S b = some k_ := by
        cases q : tAt S b with
        | none => exact absurd ((oI_m1 (tAt_b hwf)).mpr q) h21
        | some k_ => exact ⟨k_, rfl⟩
      refine J_bipush (v := nI 111) dX9_sign_24 (by decide) ?_
      refine J_goto (tgt := 45) dX9_sign_26 (by decide) ?_
      exact J_ireturn dX9_sign_45 rfl rfl ⟨by rw [show sgn S b = 111 from by simp [sgn, e7, e21]], rfl⟩
  · skip
    have e7 : sCa S b = true := b2i_1.mp h7
    refine J_bipush (v := nI 99) dX9_sign_10 (by decide) ?_
    refine J_goto (tgt := 45) dX9_sign_12 (by decide) ?_
    exact J_ireturn dX9_sign_45 rfl rfl ⟨by rw [show sgn S b = 99 from by simp [sgn, e7]], rfl⟩

end JMREAD

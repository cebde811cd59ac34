/-! THE MODEL: its questions -/
section JMASK
def onB2 (S : St) (y z : Int32) (f : Nat → Nat → Nat × Int32) : Nat × Int32 := match vi (sNb S) y, vi (sNb S) z with
  | some a, some b => f a b
  | _, _ => (1, 0)
theorem onB2_n1 {S : St} {y z : Int32} {f : Nat → Nat → Nat × Int32} (h : vi (sNb S) y = none) : onB2 S y z f = (1, 0) := by unfold onB2; rw [h]
theorem onB2_n2 {S : St} {y z : Int32} {f : Nat → Nat → Nat × Int32} (h : vi (sNb S) z = none) : onB2 S y z f = (1, 0) := by unfold onB2; rw [h]; cases vi (sNb S) y <;> rfl
theorem onB2_ok {S : St} {y z : Int32} {a b : Nat} {f : Nat → Nat → Nat × Int32} (h : vi (sNb S) y = some a) (h2 : vi (sNb S) z = some b) : onB2 S y z f = f a b := by unfold onB2; rw [h, h2]
theorem c_X9_areLinked {w : Wd} {m : Nat} {G : Gme} {th : Nat} (hM : RepM w m G th) (y z : Int32) : MC 4 mX9_areLinked 0 0 [.ref m, .int y, .int z] w (GM w m [1] (gQ G (onB2 (gS G) y z (fun a b => (0, b2i (sLk (gS G) a b)))))) := by
  obtain ⟨x, f2, f3, f4, f5, f6, f7, f8, hA, ⟨m2, m3, m4, m5, m6, m7, m8⟩, hx0, hRx, hRd⟩ := id hM
  obtain ⟨x6, x7, x13, x14, x15, x16⟩ := id hRx
  obtain ⟨hV, hP, hT, hO, ⟨hb8, hb60, hb14⟩, hE, hF⟩ := id hRd
  obtain ⟨f, g, h, mO, mS, mF, mK, hfit⟩ := id hA
  have hwf := hfit.2.2.2.2
  have hnb := hwf.nb
  have hnt := hwf.nt
  refine MC_j pnX9 rfl rfl rfl (Or.inr (fun E w h => RP_no E w h)) ?_
  show J 4 mX9_areLinked 0 [some (.ref m), some (.int y), some (.int z)] [] w 0 0 _
  refine J_aload_n dX9_areLinked_0 rfl rfl ?_
  refine J_aload_n dX9_areLinked_1 rfl rfl ?_
  refine J_iload_n dX9_areLinked_2 rfl rfl ?_
  refine K_callV dX9_areLinked_3 YX9_isBlock kX9_91 (rc_of mO rfl) (c_X9_isBlock mO mS hfit _) rfl rfl (Nat.le_of_ble_eq_true rfl) (by decide) ?_
  refine J_if_eq (tgt := 21) dX9_areLinked_6 (by decide) (fun h6 => ?_) (fun h6 => ?_)
  · skip
    have e6 : (vi (sNb (gS G)) y).isSome = false := b2i_eq.mp h6
    have e6 := isS_no e6
    refine J_iconst (v := nI 1) dX9_areLinked_21 (by decide) ?_
    refine K_putI dX9_areLinked_22 fX9_47 (Or.inl rfl) mO (Nat.le_of_ble_eq_true rfl) (fun w1 u1 => ?_)
    have m2 := (u1.2.1 _ (by omega)).trans m2
    have m3 := (u1.2.1 _ (by omega)).trans m3
    have m4 := (u1.2.1 _ (by omega)).trans m4
    have m5 := (u1.2.1 _ (by omega)).trans m5
    have m6 := (u1.2.1 _ (by omega)).trans m6
    have m7 := (u1.2.1 _ (by omega)).trans m7
    have m8 := (u1.2.1 _ (by omega)).trans m8
    have mF := (u1.2.1 _ (by omega)).trans mF
    have mK := (u1.2.1 _ (by omega)).trans mK
    have mO := u1.1
    have mS := (u1.2.1 _ (by omega)).trans mS
    have mO : w1.1 m = .inr (9, [.int (nI 1), .ref (m + 1), .ref (m + 2), .ref (m + 3), .ref (m + 4), .ref (m + 5), .int (x 6), .int (x 7), .ref (m + 6), .ref (m + 7), .ref (m + 8), .ref (m + 9), .ref (m + 10), .int (x 13), .int (x 14), .int (x 15), .int (x 16), .int (x 17), .int (x 18), .int (x 19), .int (x 20), .int (x 21)]) := mO
    refine J_aload_n dX9_areLinked_25 rfl rfl ?_
    refine J_getfield dX9_areLinked_26 fX9_47 mO rfl ?_
    refine J_if_ne (tgt := 45) dX9_areLinked_29 (by decide) (fun h29 => ?_) (fun h29 => absurd h29 (by decide))
    refine J_iconst (v := nI 0) dX9_areLinked_45 (by decide) ?_
    exact J_ireturn dX9_areLinked_46 rfl rfl (GM_of (c := 1) (v := 0) (G' := G) (th := 1) (gQ_eq (onB2_n1 e6)) (fun z => absurd z (by decide)) ((Fr.rf w m (m + 11)).up u1 (by omega) (by omega)) (by decide) ⟨va_up x 0 (nI 1), _, _, _, _, _, _, _, ⟨_, _, _, mO, mS, mF, mK, hfit⟩, ⟨m2, m3, m4, m5, m6, m7, m8⟩, (up_s _ _ _), ⟨((up_n _ _ (by decide)).trans x6), ((up_n _ _ (by decide)).trans x7), ((up_n _ _ (by decide)).trans x13), ((up_n _ _ (by decide)).trans x14), ((up_n _ _ (by decide)).trans x15), ((up_n _ _ (by decide)).trans x16)⟩, hRd⟩)
  · skip
    have e6 : (vi (sNb (gS G)) y).isSome = true := b2i_ne.mp h6
    obtain ⟨i, e6⟩ := isS_yes e6
    obtain ⟨hi, rfl⟩ := vi_some (by omega) e6
    refine J_aload_n dX9_areLinked_9 rfl rfl ?_
    refine J_iload_n dX9_areLinked_10 rfl rfl ?_
    refine K_callV dX9_areLinked_11 YX9_isBlock kX9_91 (rc_of mO rfl) (c_X9_isBlock mO mS hfit _) rfl rfl (Nat.le_of_ble_eq_true rfl) (by decide) ?_
    refine J_if_eq (tgt := 21) dX9_areLinked_14 (by decide) (fun h14 => ?_) (fun h14 => ?_)
    · skip
      have e14 : (vi (sNb (gS G)) z).isSome = false := b2i_eq.mp h14
      have e14 := isS_no e14
      refine J_iconst (v := nI 1) dX9_areLinked_21 (by decide) ?_
      refine K_putI dX9_areLinked_22 fX9_47 (Or.inl rfl) mO (Nat.le_of_ble_eq_true rfl) (fun w1 u1 => ?_)
      have m2 := (u1.2.1 _ (by omega)).trans m2
      have m3 := (u1.2.1 _ (by omega)).trans m3
      have m4 := (u1.2.1 _ (by omega)).trans m4
      have m5 := (u1.2.1 _ (by omega)).trans m5
      have m6 := (u1.2.1 _ (by omega)).trans m6
      have m7 := (u1.2.1 _ (by omega)).trans m7
      have m8 := (u1.2.1 _ (by omega)).trans m8
      have mF := (u1.2.1 _ (by omega)).trans mF
      have mK := (u1.2.1 _ (by omega)).trans mK
      have mO := u1.1
      have mS := (u1.2.1 _ (by omega)).trans mS
      have mO : w1.1 m = .inr (9, [.int (nI 1), .ref (m + 1), .ref (m + 2), .ref (m + 3), .ref (m + 4), .ref (m + 5), .int (x 6), .int (x 7), .ref (m + 6), .ref (m + 7), .ref (m + 8), .ref (m + 9), .ref (m + 10), .int (x 13), .int (x 14), .int (x 15), .int (x 16), .int (x 17), .int (x 18), .int (x 19), .int (x 20), .int (x 21)]) := mO
      refine J_aload_n dX9_areLinked_25 rfl rfl ?_
      refine J_getfield dX9_areLinked_26 fX9_47 mO rfl ?_
      refine J_if_ne (tgt := 45) dX9_areLinked_29 (by decide) (fun h29 => ?_) (fun h29 => absurd h29 (by decide))
      refine J_iconst (v := nI 0) dX9_areLinked_45 (by decide) ?_
      exact J_ireturn dX9_areLinked_46 rfl rfl (GM_of (c := 1) (v := 0) (G' := G) (th := 1) (gQ_eq (onB2_n2 e14)) (fun z => absurd z (by decide)) ((Fr.rf w m (m + 11)).up u1 (by omega) (by omega)) (by decide) ⟨va_up x 0 (nI 1), _, _, _, _, _, _, _, ⟨_, _, _, mO, mS, mF, mK, hfit⟩, ⟨m2, m3, m4, m5, m6, m7, m8⟩, (up_s _ _ _), ⟨((up_n _ _ (by decide)).trans x6), ((up_n _ _ (by decide)).trans x7), ((up_n _ _ (by decide)).trans x13), ((up_n _ _ (by decide)).trans x14), ((up_n _ _ (by decide)).trans x15), ((up_n _ _ (by decide)).trans x16)⟩, hRd⟩)
    · skip
      have e14 : (vi (sNb (gS G)) z).isSome = true := b2i_ne.mp h14
      obtain ⟨j, e14⟩ := isS_yes e14
      obtain ⟨hj, rfl⟩ := vi_some (by omega) e14
      refine J_iconst (v := nI 0) dX9_areLinked_17 (by decide) ?_
      refine J_goto (tgt := 22) dX9_areLinked_18 (by decide) ?_
      refine K_putI dX9_areLinked_22 fX9_47 (Or.inl rfl) mO (Nat.le_of_ble_eq_true rfl) (fun w1 u1 => ?_)
      have m2 := (u1.2.1 _ (by omega)).trans m2
      have m3 := (u1.2.1 _ (by omega)).trans m3
      have m4 := (u1.2.1 _ (by omega)).trans m4
      have m5 := (u1.2.1 _ (by omega)).trans m5
      have m6 := (u1.2.1 _ (by omega)).trans m6
      have m7 := (u1.2.1 _ (by omega)).trans m7
      have m8 := (u1.2.1 _ (by omega)).trans m8
      have mF := (u1.2.1 _ (by omega)).trans mF
      have mK := (u1.2.1 _ (by omega)).trans mK
      have mO := u1.1
      have mS := (u1.2.1 _ (by omega)).trans mS
      have mO : w1.1 m = .inr (9, [.int (nI 0), .ref (m + 1), .ref (m + 2), .ref (m + 3), .ref (m + 4), .ref (m + 5), .int (x 6), .int (x 7), .ref (m + 6), .ref (m + 7), .ref (m + 8), .ref (m + 9), .ref (m + 10), .int (x 13), .int (x 14), .int (x 15), .int (x 16), .int (x 17), .int (x 18), .int (x 19), .int (x 20), .int (x 21)]) := mO
      refine J_aload_n dX9_areLinked_25 rfl rfl ?_
      refine J_getfield dX9_areLinked_26 fX9_47 mO rfl ?_
      refine J_if_ne (tgt := 45) dX9_areLinked_29 (by decide) (fun h29 => absurd h29 (by decide)) (fun h29 => ?_)
      refine J_aload_n dX9_areLinked_32 rfl rfl ?_
      refine J_iload_n dX9_areLinked_33 rfl rfl ?_
      refine J_iload_n dX9_areLinked_34 rfl rfl ?_
      refine K_callV dX9_areLinked_35 YX9_linked kX9_67 (rc_of mO rfl) (c_X9_linked (x := va_up x 0 (nI 0)) mO mS hfit (show i < sNb (gS G) by omega) (show j < 32 by omega)) rfl rfl (Nat.le_of_ble_eq_true rfl) (by decide) ?_
      refine J_if_eq (tgt := 45) dX9_areLinked_38 (by decide) (fun h38 => ?_) (fun h38 => ?_)
      · skip
        have e38 : sLk (gS G) i j = false := b2i_eq.mp h38
        refine J_iconst (v := nI 0) dX9_areLinked_45 (by decide) ?_
        exact J_ireturn dX9_areLinked_46 rfl rfl (GM_of (c := 0) (v := b2i (sLk (gS G) i j)) (G' := G) (th := 0) (gQ_eq (onB2_ok e6 e14)) (fun _ => by rw [e38]; rfl) ((Fr.rf w m (m + 11)).up u1 (by omega) (by omega)) (by decide) ⟨va_up x 0 (nI 0), _, _, _, _, _, _, _, ⟨_, _, _, mO, mS, mF, mK, hfit⟩, ⟨m2, m3, m4, m5, m6, m7, m8⟩, (up_s _ _ _), ⟨((up_n _ _ (by decide)).trans x6), ((up_n _ _ (by decide)).trans x7), ((up_n _ _ (by decide)).trans x13), ((up_n _ _ (by decide)).trans x14), ((up_n _ _ (by decide)).trans x15), ((up_n _ _ (by decide)).trans x16)⟩, hRd⟩)
      · skip
        have e38 : sLk (gS G) i j = true := b2i_ne.mp h38
        refine J_iconst (v := nI 1) dX9_areLinked_41 (by decide) ?_
        refine J_goto (tgt := 46) dX9_areLinked_42 (by decide) ?_
        exact J_ireturn dX9_areLinked_46 rfl rfl (GM_of (c := 0) (v := b2i (sLk (gS G) i j)) (G' := G) (th := 0) (gQ_eq (onB2_ok e6 e14)) (fun _ => by rw [e38]; rfl) ((Fr.rf w m (m + 11)).up u1 (by omega) (by omega)) (by decide) ⟨va_up x 0 (nI 0), _, _, _, _, _, _, _, ⟨_, _, _, mO, mS, mF, mK, hfit⟩, ⟨m2, m3, m4, m5, m6, m7, m8⟩, (up_s _ _ _), ⟨((up_n _ _ (by decide)).trans x6), ((up_n _ _ (by decide)).trans x7), ((up_n _ _ (by decide)).trans x13), ((up_n _ _ (by decide)).trans x14), ((up_n _ _ (by decide)).trans x15), ((up_n _ _ (by decide)).trans x16)⟩, hRd⟩)

theorem c_X9_degree {w : Wd} {m : Nat} {G : Gme} {th : Nat} (hM : RepM w m G th) (y : Int32) : MC 4 mX9_degree 0 0 [.ref m, .int y] w (GM w m [1] (gQ G (onI (sNb (gS G)) y (fun i => (0, nI (cnt (sNb (gS G)) (sLk (gS G) i))))))) := by
  obtain ⟨x, f2, f3, f4, f5, f6, f7, f8, hA, ⟨m2, m3, m4, m5, m6, m7, m8⟩, hx0, hRx, hRd⟩ := id hM
  obtain ⟨x6, x7, x13, x14, x15, x16⟩ := id hRx
  obtain ⟨hV, hP, hT, hO, ⟨hb8, hb60, hb14⟩, hE, hF⟩ := id hRd
  obtain ⟨f, g, h, mO, mS, mF, mK, hfit⟩ := id hA
  have hwf := hfit.2.2.2.2
  have hnb := hwf.nb
  have hnt := hwf.nt
  refine MC_j pnX9 rfl rfl rfl (Or.inr (fun E w h => RP_no E w h)) ?_
  show J 4 mX9_degree 0 [some (.ref m), some (.int y), none, none] [] w 0 0 _
  have loop : ∀ i w1, i < sNb (gS G) → vi (sNb (gS G)) (nI i) = some i → w1.1 m = mCell m (va_up x 0 (nI 0)) → w1.1 (m + 1) = .inl (0, 116, .inl f) → w1.1 (m + 2) = .inl (0, 116, .inl f2) → w1.1 (m + 3) = .inl (0, 116, .inl f3) → w1.1 (m + 4) = .inl (0, 928, .inl f4) → w1.1 (m + 5) = .inl (0, 116, .inl f5) → w1.1 (m + 6) = .inl (0, 60, .inl f6) → w1.1 (m + 7) = .inl (0, 180, .inl f7) → w1.1 (m + 8) = .inl (0, 40, .inl f8) → w1.1 (m + 9) = .inl (0, 14, .inl g) → w1.1 (m + 10) = .inl (0, 14, .inl h) → Fr w w1 m (m + 11) → ∀ n k, sNb (gS G) < n + k → k ≤ sNb (gS G) → J 4 mX9_degree 21 [some (.ref m), some (.int (nI i)), some (.int (nI (cnt k (sLk (gS G) i)))), some (.int (nI k))] [] w1 0 0 (GM w m [1] (gQ G (onI (sNb (gS G)) (nI i) (fun i => (0, nI (cnt (sNb (gS G)) (sLk (gS G) i))))))) := by
    intro i w1 hi e6 mO mS m2 m3 m4 m5 m6 m7 m8 mF mK hFr n
    induction n with
    | zero => intros; omega
    | succ n ih =>
      intro k q1 q2
      have mO : w1.1 m = .inr (9, [.int (nI 0), .ref (m + 1), .ref (m + 2), .ref (m + 3), .ref (m + 4), .ref (m + 5), .int (x 6), .int (x 7), .ref (m + 6), .ref (m + 7), .ref (m + 8), .ref (m + 9), .ref (m + 10), .int (x 13), .int (x 14), .int (x 15), .int (x 16), .int (x 17), .int (x 18), .int (x 19), .int (x 20), .int (x 21)]) := mO
      refine J_iload_n dX9_degree_21 rfl rfl ?_
      refine J_aload_n dX9_degree_22 rfl rfl ?_
      refine J_getfield dX9_degree_23 fX9_7 mO rfl ?_
      refine J_iconst (v := nI 0) dX9_degree_26 (by decide) ?_
      refine K_iald (v := nI (sNb (gS G))) dX9_degree_27 mS (by omega) (by decide) hfit.1.1 ?_
      refine J_icmp_ge (tgt := 61) dX9_degree_28 (by decide) (fun h28 => ?_) (fun h28 => ?_)
      · skip
        have h28 := (nI_leI (by omega) (by omega)).mp h28
        have ek : k = sNb (gS G) := by omega
        subst ek
        refine J_iload_n dX9_degree_61 rfl rfl ?_
        exact J_ireturn dX9_degree_62 rfl rfl (GM_of (c := 0) (v := nI (cnt (sNb (gS G)) (sLk (gS G) i))) (G' := G) (th := 0) (gQ_eq (onI_ok e6)) (fun _ => rfl) hFr (by decide) ⟨va_up x 0 (nI 0), _, _, _, _, _, _, _, ⟨_, _, _, mO, mS, mF, mK, hfit⟩, ⟨m2, m3, m4, m5, m6, m7, m8⟩, (up_s _ _ _), ⟨((up_n _ _ (by decide)).trans x6), ((up_n _ _ (by decide)).trans x7), ((up_n _ _ (by decide)).trans x13), ((up_n _ _ (by decide)).trans x14), ((up_n _ _ (by decide)).trans x15), ((up_n _ _ (by decide)).trans x16)⟩, hRd⟩)
      · skip
        have h28 := mt (nI_leI (by omega) (by omega)).mpr h28
        refine J_aload_n dX9_degree_31 rfl rfl ?_
        refine J_getfield dX9_degree_32 fX9_47 mO rfl ?_
        refine J_if_ne (tgt := 61) dX9_degree_35 (by decide) (fun h35 => absurd h35 (by decide)) (fun h35 => ?_)
        refine J_iload_n dX9_degree_38 rfl rfl ?_
        refine J_aload_n dX9_degree_39 rfl rfl ?_
        refine J_iload_n dX9_degree_40 rfl rfl ?_
        refine J_iload_n dX9_degree_41 rfl rfl ?_
        refine K_callV dX9_degree_42 YX9_linked kX9_67 (rc_of mO rfl) (c_X9_linked (x := va_up x 0 (nI 0)) mO mS hfit (show i < sNb (gS G) by omega) (show k < 32 by omega)) rfl rfl (Nat.le_of_ble_eq_true rfl) (by decide) ?_
        refine J_if_eq (tgt := 52) dX9_degree_45 (by decide) (fun h45 => ?_) (fun h45 => ?_)
        · skip
          have e45 : sLk (gS G) i k = false := b2i_eq.mp h45
          refine J_iconst (v := nI 0) dX9_degree_52 (by decide) ?_
          refine K_iadd (v := nI (cnt k (sLk (gS G) i) + 0)) dX9_degree_53 (nI_add _ _) ?_
          refine J_istore_n dX9_degree_54 rfl (by decide) rfl ?_
          refine J_iinc (v := nI (k + 1)) dX9_degree_55 rfl (nI_succ _).symm (by decide) rfl ?_
          refine J_goto (tgt := 21) dX9_degree_58 (by decide) ?_
          have ec := cnt_f (p := sLk (gS G) i) (n := k) e45
          have g := ih (k + 1) (by omega) (by omega)
          rw [ec] at g
          exact g
        · skip
          have e45 : sLk (gS G) i k = true := b2i_ne.mp h45
          refine J_iconst (v := nI 1) dX9_degree_48 (by decide) ?_
          refine J_goto (tgt := 53) dX9_degree_49 (by decide) ?_
          refine K_iadd (v := nI (cnt k (sLk (gS G) i) + 1)) dX9_degree_53 (nI_add _ _) ?_
          refine J_istore_n dX9_degree_54 rfl (by decide) rfl ?_
          refine J_iinc (v := nI (k + 1)) dX9_degree_55 rfl (nI_succ _).symm (by decide) rfl ?_
          refine J_goto (tgt := 21) dX9_degree_58 (by decide) ?_
          have ec := cnt_t (p := sLk (gS G) i) (n := k) e45
          have g := ih (k + 1) (by omega) (by omega)
          rw [ec] at g
          exact g
  refine J_aload_n dX9_degree_0 rfl rfl ?_
  refine J_aload_n dX9_degree_1 rfl rfl ?_
  refine J_iload_n dX9_degree_2 rfl rfl ?_
  refine K_callV dX9_degree_3 YX9_isBlock kX9_91 (rc_of mO rfl) (c_X9_isBlock mO mS hfit _) rfl rfl (Nat.le_of_ble_eq_true rfl) (by decide) ?_
  refine J_if_eq (tgt := 13) dX9_degree_6 (by decide) (fun h6 => ?_) (fun h6 => ?_)
  · skip
    have e6 : (vi (sNb (gS G)) y).isSome = false := b2i_eq.mp h6
    have e6 := isS_no e6
    refine J_iconst (v := nI 1) dX9_degree_13 (by decide) ?_
    refine K_putI dX9_degree_14 fX9_47 (Or.inl rfl) mO (Nat.le_of_ble_eq_true rfl) (fun w1 u1 => ?_)
    have m2 := (u1.2.1 _ (by omega)).trans m2
    have m3 := (u1.2.1 _ (by omega)).trans m3
    have m4 := (u1.2.1 _ (by omega)).trans m4
    have m5 := (u1.2.1 _ (by omega)).trans m5
    have m6 := (u1.2.1 _ (by omega)).trans m6
    have m7 := (u1.2.1 _ (by omega)).trans m7
    have m8 := (u1.2.1 _ (by omega)).trans m8
    have mF := (u1.2.1 _ (by omega)).trans mF
    have mK := (u1.2.1 _ (by omega)).trans mK
    have mO := u1.1
    have mS := (u1.2.1 _ (by omega)).trans mS
    have mO : w1.1 m = .inr (9, [.int (nI 1), .ref (m + 1), .ref (m + 2), .ref (m + 3), .ref (m + 4), .ref (m + 5), .int (x 6), .int (x 7), .ref (m + 6), .ref (m + 7), .ref (m + 8), .ref (m + 9), .ref (m + 10), .int (x 13), .int (x 14), .int (x 15), .int (x 16), .int (x 17), .int (x 18), .int (x 19), .int (x 20), .int (x 21)]) := mO
    refine J_iconst (v := nI 0) dX9_degree_17 (by decide) ?_
    refine J_istore_n dX9_degree_18 rfl (by decide) rfl ?_
    refine J_iconst (v := nI 0) dX9_degree_19 (by decide) ?_
    refine J_istore_n dX9_degree_20 rfl (by decide) rfl ?_
    refine J_iload_n dX9_degree_21 rfl rfl ?_
    refine J_aload_n dX9_degree_22 rfl rfl ?_
    refine J_getfield dX9_degree_23 fX9_7 mO rfl ?_
    refine J_iconst (v := nI 0) dX9_degree_26 (by decide) ?_
    refine K_iald (v := nI (sNb (gS G))) dX9_degree_27 mS (by omega) (by decide) hfit.1.1 ?_
    refine J_icmp_ge (tgt := 61) dX9_degree_28 (by decide) (fun h28 => ?_) (fun h28 => ?_)
    · skip
      have h28 := (nI_leI (by omega) (by omega)).mp h28
      refine J_iload_n dX9_degree_61 rfl rfl ?_
      exact J_ireturn dX9_degree_62 rfl rfl (GM_of (c := 1) (v := 0) (G' := G) (th := 1) (gQ_eq (onI_no e6)) (fun z => absurd z (by decide)) ((Fr.rf w m (m + 11)).up u1 (by omega) (by omega)) (by decide) ⟨va_up x 0 (nI 1), _, _, _, _, _, _, _, ⟨_, _, _, mO, mS, mF, mK, hfit⟩, ⟨m2, m3, m4, m5, m6, m7, m8⟩, (up_s _ _ _), ⟨((up_n _ _ (by decide)).trans x6), ((up_n _ _ (by decide)).trans x7), ((up_n _ _ (by decide)).trans x13), ((up_n _ _ (by decide)).trans x14), ((up_n _ _ (by decide)).trans x15), ((up_n _ _ (by decide)).trans x16)⟩, hRd⟩)
    · skip
      have h28 := mt (nI_leI (by omega) (by omega)).mpr h28
      refine J_aload_n dX9_degree_31 rfl rfl ?_
      refine J_getfield dX9_degree_32 fX9_47 mO rfl ?_
      refine J_if_ne (tgt := 61) dX9_degree_35 (by decide) (fun h35 => ?_) (fun h35 => absurd h35 (by decide))
      refine J_iload_n dX9_degree_61 rfl rfl ?_
      exact J_ireturn dX9_degree_62 rfl rfl (GM_of (c := 1) (v := 0) (G' := G) (th := 1) (gQ_eq (onI_no e6)) (fun z => absurd z (by decide)) ((Fr.rf w m (m + 11)).up u1 (by omega) (by omega)) (by decide) ⟨va_up x 0 (nI 1), _, _, _, _, _, _, _, ⟨_, _, _, mO, mS, mF, mK, hfit⟩, ⟨m2, m3, m4, m5, m6, m7, m8⟩, (up_s _ _ _), ⟨((up_n _ _ (by decide)).trans x6), ((up_n _ _ (by decide)).trans x7), ((up_n _ _ (by decide)).trans x13), ((up_n _ _ (by decide)).trans x14), ((up_n _ _ (by decide)).trans x15), ((up_n _ _ (by decide)).trans x16)⟩, hRd⟩)
  · skip
    have e6 : (vi (sNb (gS G)) y).isSome = true := b2i_ne.mp h6
    obtain ⟨i, e6⟩ := isS_yes e6
    obtain ⟨hi, rfl⟩ := vi_some (by omega) e6
    refine J_iconst (v := nI 0) dX9_degree_9 (by decide) ?_
    refine J_goto (tgt := 14) dX9_degree_10 (by decide) ?_
    refine K_putI dX9_degree_14 fX9_47 (Or.inl rfl) mO (Nat.le_of_ble_eq_true rfl) (fun w1 u1 => ?_)
    have m2 := (u1.2.1 _ (by omega)).trans m2
    have m3 := (u1.2.1 _ (by omega)).trans m3
    have m4 := (u1.2.1 _ (by omega)).trans m4
    have m5 := (u1.2.1 _ (by omega)).trans m5
    have m6 := (u1.2.1 _ (by omega)).trans m6
    have m7 := (u1.2.1 _ (by omega)).trans m7
    have m8 := (u1.2.1 _ (by omega)).trans m8
    have mF := (u1.2.1 _ (by omega)).trans mF
    have mK := (u1.2.1 _ (by omega)).trans mK
    have mO := u1.1
    have mS := (u1.2.1 _ (by omega)).trans mS
    have mO : w1.1 m = .inr (9, [.int (nI 0), .ref (m + 1), .ref (m + 2), .ref (m + 3), .ref (m + 4), .ref (m + 5), .int (x 6), .int (x 7), .ref (m + 6), .ref (m + 7), .ref (m + 8), .ref (m + 9), .ref (m + 10), .int (x 13), .int (x 14), .int (x 15), .int (x 16), .int (x 17), .int (x 18), .int (x 19), .int (x 20), .int (x 21)]) := mO
    refine J_iconst (v := nI 0) dX9_degree_17 (by decide) ?_
    refine J_istore_n dX9_degree_18 rfl (by decide) rfl ?_
    refine J_iconst (v := nI 0) dX9_degree_19 (by decide) ?_
    refine J_istore_n dX9_degree_20 rfl (by decide) rfl ?_
    exact loop i _ hi e6 mO mS m2 m3 m4 m5 m6 m7 m8 mF mK ((Fr.rf w m (m + 11)).up u1 (by omega) (by omega)) (sNb (gS G) + 1) 0 (by omega) (by omega)

theorem c_X9_trainIn {w : Wd} {m : Nat} {G : Gme} {th : Nat} (hM : RepM w m G th) (y : Int32) : MC 4 mX9_trainIn 0 0 [.ref m, .int y] w (GM w m [1, 5] (gQ G (onI (sNb (gS G)) y (fun i => opA (tAt (gS G) i))))) := by
  obtain ⟨x, f2, f3, f4, f5, f6, f7, f8, hA, ⟨m2, m3, m4, m5, m6, m7, m8⟩, hx0, hRx, hRd⟩ := id hM
  obtain ⟨x6, x7, x13, x14, x15, x16⟩ := id hRx
  obtain ⟨hV, hP, hT, hO, ⟨hb8, hb60, hb14⟩, hE, hF⟩ := id hRd
  obtain ⟨f, g, h, mO, mS, mF, mK, hfit⟩ := id hA
  have hwf := hfit.2.2.2.2
  have hnb := hwf.nb
  have hnt := hwf.nt
  refine MC_j pnX9 rfl rfl rfl (Or.inr (fun E w h => RP_no E w h)) ?_
  show J 4 mX9_trainIn 0 [some (.ref m), some (.int y)] [] w 0 0 _
  refine J_aload_n dX9_trainIn_0 rfl rfl ?_
  refine J_aload_n dX9_trainIn_1 rfl rfl ?_
  refine J_iload_n dX9_trainIn_2 rfl rfl ?_
  refine K_callV dX9_trainIn_3 YX9_isBlock kX9_91 (rc_of mO rfl) (c_X9_isBlock mO mS hfit _) rfl rfl (Nat.le_of_ble_eq_true rfl) (by decide) ?_
  refine J_if_ne (tgt := 13) dX9_trainIn_6 (by decide) (fun h6 => ?_) (fun h6 => ?_)
  · skip
    have e6 : (vi (sNb (gS G)) y).isSome = true := b2i_ne.mp h6
    obtain ⟨i, e6⟩ := isS_yes e6
    obtain ⟨hi, rfl⟩ := vi_some (by omega) e6
    refine J_aload_n dX9_trainIn_13 rfl rfl ?_
    refine J_iload_n dX9_trainIn_14 rfl rfl ?_
    refine K_callV dX9_trainIn_15 YX9_inside kX9_99 (rc_of mO rfl) (c_X9_inside mO mS hfit (show i < 2 ^ 31 by omega)) rfl rfl (Nat.le_of_ble_eq_true rfl) (by decide) ?_
    refine J_iconst (v := (-1)) dX9_trainIn_18 (by decide) ?_
    refine J_icmp_ne (tgt := 26) dX9_trainIn_19 (by decide) (fun h19 => ?_) (fun h19 => ?_)
    · skip
      obtain ⟨k19, e19⟩ : ∃ k_, tAt (gS G) i = some k_ := by
        cases q : tAt (gS G) i with
        | none => exact absurd ((oI_m1 (tAt_b hwf)).mpr q) h19
        | some k_ => exact ⟨k_, rfl⟩
      refine J_iconst (v := nI 0) dX9_trainIn_26 (by decide) ?_
      refine K_putI dX9_trainIn_27 fX9_47 (Or.inl rfl) mO (Nat.le_of_ble_eq_true rfl) (fun w1 u1 => ?_)
      have m2 := (u1.2.1 _ (by omega)).trans m2
      have m3 := (u1.2.1 _ (by omega)).trans m3
      have m4 := (u1.2.1 _ (by omega)).trans m4
      have m5 := (u1.2.1 _ (by omega)).trans m5
      have m6 := (u1.2.1 _ (by omega)).trans m6
      have m7 := (u1.2.1 _ (by omega)).trans m7
      have m8 := (u1.2.1 _ (by omega)).trans m8
      have mF := (u1.2.1 _ (by omega)).trans mF
      have mK := (u1.2.1 _ (by omega)).trans mK
      have mO := u1.1
      have mS := (u1.2.1 _ (by omega)).trans mS
      have mO : w1.1 m = .inr (9, [.int (nI 0), .ref (m + 1), .ref (m + 2), .ref (m + 3), .ref (m + 4), .ref (m + 5), .int (x 6), .int (x 7), .ref (m + 6), .ref (m + 7), .ref (m + 8), .ref (m + 9), .ref (m + 10), .int (x 13), .int (x 14), .int (x 15), .int (x 16), .int (x 17), .int (x 18), .int (x 19), .int (x 20), .int (x 21)]) := mO
      refine J_aload_n dX9_trainIn_30 rfl rfl ?_
      refine J_getfield dX9_trainIn_31 fX9_47 mO rfl ?_
      refine J_if_le (tgt := 41) dX9_trainIn_34 (by decide) (fun h34 => ?_) (fun h34 => absurd h34 (by decide))
      refine J_aload_n dX9_trainIn_41 rfl rfl ?_
      refine J_iload_n dX9_trainIn_42 rfl rfl ?_
      refine K_callV dX9_trainIn_43 YX9_inside kX9_99 (rc_of mO rfl) (c_X9_inside (x := va_up x 0 (nI 0)) mO mS hfit (show i < 2 ^ 31 by omega)) rfl rfl (Nat.le_of_ble_eq_true rfl) (by decide) ?_
      exact J_ireturn dX9_trainIn_46 rfl rfl (GM_of (c := 0) (v := nI k19) (G' := G) (th := 0) (gQ_eq ((onI_ok e6).trans (opA_ok e19))) (fun _ => by rw [e19]; rfl) ((Fr.rf w m (m + 11)).up u1 (by omega) (by omega)) (by decide) ⟨va_up x 0 (nI 0), _, _, _, _, _, _, _, ⟨_, _, _, mO, mS, mF, mK, hfit⟩, ⟨m2, m3, m4, m5, m6, m7, m8⟩, (up_s _ _ _), ⟨((up_n _ _ (by decide)).trans x6), ((up_n _ _ (by decide)).trans x7), ((up_n _ _ (by decide)).trans x13), ((up_n _ _ (by decide)).trans x14), ((up_n _ _ (by decide)).trans x15), ((up_n _ _ (by decide)).trans x16)⟩, hRd⟩)
    · skip
      have e19 : tAt (gS G) i = none := (oI_m1 (tAt_b hwf)).mp h19
      refine J_iconst (v := nI 2) dX9_trainIn_22 (by decide) ?_
      refine J_goto (tgt := 27) dX9_trainIn_23 (by decide) ?_
      refine K_putI dX9_trainIn_27 fX9_47 (Or.inl rfl) mO (Nat.le_of_ble_eq_true rfl) (fun w1 u1 => ?_)
      have m2 := (u1.2.1 _ (by omega)).trans m2
      have m3 := (u1.2.1 _ (by omega)).trans m3
      have m4 := (u1.2.1 _ (by omega)).trans m4
      have m5 := (u1.2.1 _ (by omega)).trans m5
      have m6 := (u1.2.1 _ (by omega)).trans m6
      have m7 := (u1.2.1 _ (by omega)).trans m7
      have m8 := (u1.2.1 _ (by omega)).trans m8
      have mF := (u1.2.1 _ (by omega)).trans mF
      have mK := (u1.2.1 _ (by omega)).trans mK
      have mO := u1.1
      have mS := (u1.2.1 _ (by omega)).trans mS
      have mO : w1.1 m = .inr (9, [.int (nI 2), .ref (m + 1), .ref (m + 2), .ref (m + 3), .ref (m + 4), .ref (m + 5), .int (x 6), .int (x 7), .ref (m + 6), .ref (m + 7), .ref (m + 8), .ref (m + 9), .ref (m + 10), .int (x 13), .int (x 14), .int (x 15), .int (x 16), .int (x 17), .int (x 18), .int (x 19), .int (x 20), .int (x 21)]) := mO
      refine J_aload_n dX9_trainIn_30 rfl rfl ?_
      refine J_getfield dX9_trainIn_31 fX9_47 mO rfl ?_
      refine J_if_le (tgt := 41) dX9_trainIn_34 (by decide) (fun h34 => absurd h34 (by decide)) (fun h34 => ?_)
      refine J_iconst (v := nI 0) dX9_trainIn_37 (by decide) ?_
      refine J_goto (tgt := 46) dX9_trainIn_38 (by decide) ?_
      exact J_ireturn dX9_trainIn_46 rfl rfl (GM_of (c := 5) (v := 0) (G' := G) (th := 2) (gQ_eq ((onI_ok e6).trans (opA_no e19))) (fun z => absurd z (by decide)) ((Fr.rf w m (m + 11)).up u1 (by omega) (by omega)) (by decide) ⟨va_up x 0 (nI 2), _, _, _, _, _, _, _, ⟨_, _, _, mO, mS, mF, mK, hfit⟩, ⟨m2, m3, m4, m5, m6, m7, m8⟩, (up_s _ _ _), ⟨((up_n _ _ (by decide)).trans x6), ((up_n _ _ (by decide)).trans x7), ((up_n _ _ (by decide)).trans x13), ((up_n _ _ (by decide)).trans x14), ((up_n _ _ (by decide)).trans x15), ((up_n _ _ (by decide)).trans x16)⟩, hRd⟩)
  · skip
    have e6 : (vi (sNb (gS G)) y).isSome = false := b2i_eq.mp h6
    have e6 := isS_no e6
    refine J_iconst (v := nI 1) dX9_trainIn_9 (by decide) ?_
    refine J_goto (tgt := 27) dX9_trainIn_10 (by decide) ?_
    refine K_putI dX9_trainIn_27 fX9_47 (Or.inl rfl) mO (Nat.le_of_ble_eq_true rfl) (fun w1 u1 => ?_)
    have m2 := (u1.2.1 _ (by omega)).trans m2
    have m3 := (u1.2.1 _ (by omega)).trans m3
    have m4 := (u1.2.1 _ (by omega)).trans m4
    have m5 := (u1.2.1 _ (by omega)).trans m5
    have m6 := (u1.2.1 _ (by omega)).trans m6
    have m7 := (u1.2.1 _ (by omega)).trans m7
    have m8 := (u1.2.1 _ (by omega)).trans m8
    have mF := (u1.2.1 _ (by omega)).trans mF
    have mK := (u1.2.1 _ (by omega)).trans mK
    have mO := u1.1
    have mS := (u1.2.1 _ (by omega)).trans mS
    have mO : w1.1 m = .inr (9, [.int (nI 1), .ref (m + 1), .ref (m + 2), .ref (m + 3), .ref (m + 4), .ref (m + 5), .int (x 6), .int (x 7), .ref (m + 6), .ref (m + 7), .ref (m + 8), .ref (m + 9), .ref (m + 10), .int (x 13), .int (x 14), .int (x 15), .int (x 16), .int (x 17), .int (x 18), .int (x 19), .int (x 20), .int (x 21)]) := mO
    refine J_aload_n dX9_trainIn_30 rfl rfl ?_
    refine J_getfield dX9_trainIn_31 fX9_47 mO rfl ?_
    refine J_if_le (tgt := 41) dX9_trainIn_34 (by decide) (fun h34 => absurd h34 (by decide)) (fun h34 => ?_)
    refine J_iconst (v := nI 0) dX9_trainIn_37 (by decide) ?_
    refine J_goto (tgt := 46) dX9_trainIn_38 (by decide) ?_
    exact J_ireturn dX9_trainIn_46 rfl rfl (GM_of (c := 1) (v := 0) (G' := G) (th := 1) (gQ_eq (onI_no e6)) (fun z => absurd z (by decide)) ((Fr.rf w m (m + 11)).up u1 (by omega) (by omega)) (by decide) ⟨va_up x 0 (nI 1), _, _, _, _, _, _, _, ⟨_, _, _, mO, mS, mF, mK, hfit⟩, ⟨m2, m3, m4, m5, m6, m7, m8⟩, (up_s _ _ _), ⟨((up_n _ _ (by decide)).trans x6), ((up_n _ _ (by decide)).trans x7), ((up_n _ _ (by decide)).trans x13), ((up_n _ _ (by decide)).trans x14), ((up_n _ _ (by decide)).trans x15), ((up_n _ _ (by decide)).trans x16)⟩, hRd⟩)

theorem c_X9_reservedBy {w : Wd} {m : Nat} {G : Gme} {th : Nat} (hM : RepM w m G th) (y : Int32) : MC 4 mX9_reservedBy 0 0 [.ref m, .int y] w (GM w m [1, 5] (gQ G (onI (sNb (gS G)) y (fun i => opA (hOf (gS G) i))))) := by
  obtain ⟨x, f2, f3, f4, f5, f6, f7, f8, hA, ⟨m2, m3, m4, m5, m6, m7, m8⟩, hx0, hRx, hRd⟩ := id hM
  obtain ⟨x6, x7, x13, x14, x15, x16⟩ := id hRx
  obtain ⟨hV, hP, hT, hO, ⟨hb8, hb60, hb14⟩, hE, hF⟩ := id hRd
  obtain ⟨f, g, h, mO, mS, mF, mK, hfit⟩ := id hA
  have hwf := hfit.2.2.2.2
  have hnb := hwf.nb
  have hnt := hwf.nt
  refine MC_j pnX9 rfl rfl rfl (Or.inr (fun E w h => RP_no E w h)) ?_
  show J 4 mX9_reservedBy 0 [some (.ref m), some (.int y)] [] w 0 0 _
  refine J_aload_n dX9_reservedBy_0 rfl rfl ?_
  refine J_aload_n dX9_reservedBy_1 rfl rfl ?_
  refine J_iload_n dX9_reservedBy_2 rfl rfl ?_
  refine K_callV dX9_reservedBy_3 YX9_isBlock kX9_91 (rc_of mO rfl) (c_X9_isBlock mO mS hfit _) rfl rfl (Nat.le_of_ble_eq_true rfl) (by decide) ?_
  refine J_if_ne (tgt := 13) dX9_reservedBy_6 (by decide) (fun h6 => ?_) (fun h6 => ?_)
  · skip
    have e6 : (vi (sNb (gS G)) y).isSome = true := b2i_ne.mp h6
    obtain ⟨i, e6⟩ := isS_yes e6
    obtain ⟨hi, rfl⟩ := vi_some (by omega) e6
    refine J_aload_n dX9_reservedBy_13 rfl rfl ?_
    refine J_iload_n dX9_reservedBy_14 rfl rfl ?_
    refine K_callV dX9_reservedBy_15 YX9_holder kX9_78 (rc_of mO rfl) (c_X9_holder mO mS hfit (show i < sNb (gS G) by omega)) rfl rfl (Nat.le_of_ble_eq_true rfl) (by decide) ?_
    refine J_iconst (v := (-1)) dX9_reservedBy_18 (by decide) ?_
    refine J_icmp_ne (tgt := 26) dX9_reservedBy_19 (by decide) (fun h19 => ?_) (fun h19 => ?_)
    · skip
      obtain ⟨k19, e19⟩ : ∃ k_, hOf (gS G) i = some k_ := by
        cases q : hOf (gS G) i with
        | none => exact absurd ((oI_m1 (hOf_b hwf)).mpr q) h19
        | some k_ => exact ⟨k_, rfl⟩
      refine J_iconst (v := nI 0) dX9_reservedBy_26 (by decide) ?_
      refine K_putI dX9_reservedBy_27 fX9_47 (Or.inl rfl) mO (Nat.le_of_ble_eq_true rfl) (fun w1 u1 => ?_)
      have m2 := (u1.2.1 _ (by omega)).trans m2
      have m3 := (u1.2.1 _ (by omega)).trans m3
      have m4 := (u1.2.1 _ (by omega)).trans m4
      have m5 := (u1.2.1 _ (by omega)).trans m5
      have m6 := (u1.2.1 _ (by omega)).trans m6
      have m7 := (u1.2.1 _ (by omega)).trans m7
      have m8 := (u1.2.1 _ (by omega)).trans m8
      have mF := (u1.2.1 _ (by omega)).trans mF
      have mK := (u1.2.1 _ (by omega)).trans mK
      have mO := u1.1
      have mS := (u1.2.1 _ (by omega)).trans mS
      have mO : w1.1 m = .inr (9, [.int (nI 0), .ref (m + 1), .ref (m + 2), .ref (m + 3), .ref (m + 4), .ref (m + 5), .int (x 6), .int (x 7), .ref (m + 6), .ref (m + 7), .ref (m + 8), .ref (m + 9), .ref (m + 10), .int (x 13), .int (x 14), .int (x 15), .int (x 16), .int (x 17), .int (x 18), .int (x 19), .int (x 20), .int (x 21)]) := mO
      refine J_aload_n dX9_reservedBy_30 rfl rfl ?_
      refine J_getfield dX9_reservedBy_31 fX9_47 mO rfl ?_
      refine J_if_le (tgt := 41) dX9_reservedBy_34 (by decide) (fun h34 => ?_) (fun h34 => absurd h34 (by decide))
      refine J_aload_n dX9_reservedBy_41 rfl rfl ?_
      refine J_iload_n dX9_reservedBy_42 rfl rfl ?_
      refine K_callV dX9_reservedBy_43 YX9_holder kX9_78 (rc_of mO rfl) (c_X9_holder (x := va_up x 0 (nI 0)) mO mS hfit (show i < sNb (gS G) by omega)) rfl rfl (Nat.le_of_ble_eq_true rfl) (by decide) ?_
      exact J_ireturn dX9_reservedBy_46 rfl rfl (GM_of (c := 0) (v := nI k19) (G' := G) (th := 0) (gQ_eq ((onI_ok e6).trans (opA_ok e19))) (fun _ => by rw [e19]; rfl) ((Fr.rf w m (m + 11)).up u1 (by omega) (by omega)) (by decide) ⟨va_up x 0 (nI 0), _, _, _, _, _, _, _, ⟨_, _, _, mO, mS, mF, mK, hfit⟩, ⟨m2, m3, m4, m5, m6, m7, m8⟩, (up_s _ _ _), ⟨((up_n _ _ (by decide)).trans x6), ((up_n _ _ (by decide)).trans x7), ((up_n _ _ (by decide)).trans x13), ((up_n _ _ (by decide)).trans x14), ((up_n _ _ (by decide)).trans x15), ((up_n _ _ (by decide)).trans x16)⟩, hRd⟩)
    · skip
      have e19 : hOf (gS G) i = none := (oI_m1 (hOf_b hwf)).mp h19
      refine J_iconst (v := nI 2) dX9_reservedBy_22 (by decide) ?_
      refine J_goto (tgt := 27) dX9_reservedBy_23 (by decide) ?_
      refine K_putI dX9_reservedBy_27 fX9_47 (Or.inl rfl) mO (Nat.le_of_ble_eq_true rfl) (fun w1 u1 => ?_)
      have m2 := (u1.2.1 _ (by omega)).trans m2
      have m3 := (u1.2.1 _ (by omega)).trans m3
      have m4 := (u1.2.1 _ (by omega)).trans m4
      have m5 := (u1.2.1 _ (by omega)).trans m5
      have m6 := (u1.2.1 _ (by omega)).trans m6
      have m7 := (u1.2.1 _ (by omega)).trans m7
      have m8 := (u1.2.1 _ (by omega)).trans m8
      have mF := (u1.2.1 _ (by omega)).trans mF
      have mK := (u1.2.1 _ (by omega)).trans mK
      have mO := u1.1
      have mS := (u1.2.1 _ (by omega)).trans mS
      have mO : w1.1 m = .inr (9, [.int (nI 2), .ref (m + 1), .ref (m + 2), .ref (m + 3), .ref (m + 4), .ref (m + 5), .int (x 6), .int (x 7), .ref (m + 6), .ref (m + 7), .ref (m + 8), .ref (m + 9), .ref (m + 10), .int (x 13), .int (x 14), .int (x 15), .int (x 16), .int (x 17), .int (x 18), .int (x 19), .int (x 20), .int (x 21)]) := mO
      refine J_aload_n dX9_reservedBy_30 rfl rfl ?_
      refine J_getfield dX9_reservedBy_31 fX9_47 mO rfl ?_
      refine J_if_le (tgt := 41) dX9_reservedBy_34 (by decide) (fun h34 => absurd h34 (by decide)) (fun h34 => ?_)
      refine J_iconst (v := nI 0) dX9_reservedBy_37 (by decide) ?_
      refine J_goto (tgt := 46) dX9_reservedBy_38 (by decide) ?_
      exact J_ireturn dX9_reservedBy_46 rfl rfl (GM_of (c := 5) (v := 0) (G' := G) (th := 2) (gQ_eq ((onI_ok e6).trans (opA_no e19))) (fun z => absurd z (by decide)) ((Fr.rf w m (m + 11)).up u1 (by omega) (by omega)) (by decide) ⟨va_up x 0 (nI 2), _, _, _, _, _, _, _, ⟨_, _, _, mO, mS, mF, mK, hfit⟩, ⟨m2, m3, m4, m5, m6, m7, m8⟩, (up_s _ _ _), ⟨((up_n _ _ (by decide)).trans x6), ((up_n _ _ (by decide)).trans x7), ((up_n _ _ (by decide)).trans x13), ((up_n _ _ (by decide)).trans x14), ((up_n _ _ (by decide)).trans x15), ((up_n _ _ (by decide)).trans x16)⟩, hRd⟩)
  · skip
    have e6 : (vi (sNb (gS G)) y).isSome = false := b2i_eq.mp h6
    have e6 := isS_no e6
    refine J_iconst (v := nI 1) dX9_reservedBy_9 (by decide) ?_
    refine J_goto (tgt := 27) dX9_reservedBy_10 (by decide) ?_
    refine K_putI dX9_reservedBy_27 fX9_47 (Or.inl rfl) mO (Nat.le_of_ble_eq_true rfl) (fun w1 u1 => ?_)
    have m2 := (u1.2.1 _ (by omega)).trans m2
    have m3 := (u1.2.1 _ (by omega)).trans m3
    have m4 := (u1.2.1 _ (by omega)).trans m4
    have m5 := (u1.2.1 _ (by omega)).trans m5
    have m6 := (u1.2.1 _ (by omega)).trans m6
    have m7 := (u1.2.1 _ (by omega)).trans m7
    have m8 := (u1.2.1 _ (by omega)).trans m8
    have mF := (u1.2.1 _ (by omega)).trans mF
    have mK := (u1.2.1 _ (by omega)).trans mK
    have mO := u1.1
    have mS := (u1.2.1 _ (by omega)).trans mS
    have mO : w1.1 m = .inr (9, [.int (nI 1), .ref (m + 1), .ref (m + 2), .ref (m + 3), .ref (m + 4), .ref (m + 5), .int (x 6), .int (x 7), .ref (m + 6), .ref (m + 7), .ref (m + 8), .ref (m + 9), .ref (m + 10), .int (x 13), .int (x 14), .int (x 15), .int (x 16), .int (x 17), .int (x 18), .int (x 19), .int (x 20), .int (x 21)]) := mO
    refine J_aload_n dX9_reservedBy_30 rfl rfl ?_
    refine J_getfield dX9_reservedBy_31 fX9_47 mO rfl ?_
    refine J_if_le (tgt := 41) dX9_reservedBy_34 (by decide) (fun h34 => absurd h34 (by decide)) (fun h34 => ?_)
    refine J_iconst (v := nI 0) dX9_reservedBy_37 (by decide) ?_
    refine J_goto (tgt := 46) dX9_reservedBy_38 (by decide) ?_
    exact J_ireturn dX9_reservedBy_46 rfl rfl (GM_of (c := 1) (v := 0) (G' := G) (th := 1) (gQ_eq (onI_no e6)) (fun z => absurd z (by decide)) ((Fr.rf w m (m + 11)).up u1 (by omega) (by omega)) (by decide) ⟨va_up x 0 (nI 1), _, _, _, _, _, _, _, ⟨_, _, _, mO, mS, mF, mK, hfit⟩, ⟨m2, m3, m4, m5, m6, m7, m8⟩, (up_s _ _ _), ⟨((up_n _ _ (by decide)).trans x6), ((up_n _ _ (by decide)).trans x7), ((up_n _ _ (by decide)).trans x13), ((up_n _ _ (by decide)).trans x14), ((up_n _ _ (by decide)).trans x15), ((up_n _ _ (by decide)).trans x16)⟩, hRd⟩)

theorem c_X9_goal {w : Wd} {m : Nat} {G : Gme} {th : Nat} (hM : RepM w m G th) (y : Int32) : MC 4 mX9_goal 0 0 [.ref m, .int y] w (GM w m [1, 5] (gQ G (onI (sNt (gS G)) y (fun i => opA (sGo (gS G) i))))) := by
  obtain ⟨x, f2, f3, f4, f5, f6, f7, f8, hA, ⟨m2, m3, m4, m5, m6, m7, m8⟩, hx0, hRx, hRd⟩ := id hM
  obtain ⟨x6, x7, x13, x14, x15, x16⟩ := id hRx
  obtain ⟨hV, hP, hT, hO, ⟨hb8, hb60, hb14⟩, hE, hF⟩ := id hRd
  obtain ⟨f, g, h, mO, mS, mF, mK, hfit⟩ := id hA
  have hwf := hfit.2.2.2.2
  have hnb := hwf.nb
  have hnt := hwf.nt
  refine MC_j pnX9 rfl rfl rfl (Or.inr (fun E w h => RP_no E w h)) ?_
  show J 4 mX9_goal 0 [some (.ref m), some (.int y)] [] w 0 0 _
  refine J_aload_n dX9_goal_0 rfl rfl ?_
  refine J_aload_n dX9_goal_1 rfl rfl ?_
  refine J_iload_n dX9_goal_2 rfl rfl ?_
  refine K_callV dX9_goal_3 YX9_isTrain kX9_109 (rc_of mO rfl) (c_X9_isTrain mO mS hfit _) rfl rfl (Nat.le_of_ble_eq_true rfl) (by decide) ?_
  refine J_if_ne (tgt := 13) dX9_goal_6 (by decide) (fun h6 => ?_) (fun h6 => ?_)
  · skip
    have e6 : (vi (sNt (gS G)) y).isSome = true := b2i_ne.mp h6
    obtain ⟨i, e6⟩ := isS_yes e6
    obtain ⟨hi, rfl⟩ := vi_some (by omega) e6
    refine J_aload_n dX9_goal_13 rfl rfl ?_
    refine J_iload_n dX9_goal_14 rfl rfl ?_
    refine K_callV dX9_goal_15 YX9_goalOf kX9_81 (rc_of mO rfl) (c_X9_goalOf mO mS hfit (show i < sNt (gS G) by omega)) rfl rfl (Nat.le_of_ble_eq_true rfl) (by decide) ?_
    refine J_iconst (v := (-1)) dX9_goal_18 (by decide) ?_
    refine J_icmp_ne (tgt := 26) dX9_goal_19 (by decide) (fun h19 => ?_) (fun h19 => ?_)
    · skip
      obtain ⟨k19, e19⟩ : ∃ k_, sGo (gS G) i = some k_ := by
        cases q : sGo (gS G) i with
        | none => exact absurd ((oI_m1 (sGo_b hwf (show i < sNt (gS G) by omega))).mpr q) h19
        | some k_ => exact ⟨k_, rfl⟩
      refine J_iconst (v := nI 0) dX9_goal_26 (by decide) ?_
      refine K_putI dX9_goal_27 fX9_47 (Or.inl rfl) mO (Nat.le_of_ble_eq_true rfl) (fun w1 u1 => ?_)
      have m2 := (u1.2.1 _ (by omega)).trans m2
      have m3 := (u1.2.1 _ (by omega)).trans m3
      have m4 := (u1.2.1 _ (by omega)).trans m4
      have m5 := (u1.2.1 _ (by omega)).trans m5
      have m6 := (u1.2.1 _ (by omega)).trans m6
      have m7 := (u1.2.1 _ (by omega)).trans m7
      have m8 := (u1.2.1 _ (by omega)).trans m8
      have mF := (u1.2.1 _ (by omega)).trans mF
      have mK := (u1.2.1 _ (by omega)).trans mK
      have mO := u1.1
      have mS := (u1.2.1 _ (by omega)).trans mS
      have mO : w1.1 m = .inr (9, [.int (nI 0), .ref (m + 1), .ref (m + 2), .ref (m + 3), .ref (m + 4), .ref (m + 5), .int (x 6), .int (x 7), .ref (m + 6), .ref (m + 7), .ref (m + 8), .ref (m + 9), .ref (m + 10), .int (x 13), .int (x 14), .int (x 15), .int (x 16), .int (x 17), .int (x 18), .int (x 19), .int (x 20), .int (x 21)]) := mO
      refine J_aload_n dX9_goal_30 rfl rfl ?_
      refine J_getfield dX9_goal_31 fX9_47 mO rfl ?_
      refine J_if_le (tgt := 41) dX9_goal_34 (by decide) (fun h34 => ?_) (fun h34 => absurd h34 (by decide))
      refine J_aload_n dX9_goal_41 rfl rfl ?_
      refine J_iload_n dX9_goal_42 rfl rfl ?_
      refine K_callV dX9_goal_43 YX9_goalOf kX9_81 (rc_of mO rfl) (c_X9_goalOf (x := va_up x 0 (nI 0)) mO mS hfit (show i < sNt (gS G) by omega)) rfl rfl (Nat.le_of_ble_eq_true rfl) (by decide) ?_
      exact J_ireturn dX9_goal_46 rfl rfl (GM_of (c := 0) (v := nI k19) (G' := G) (th := 0) (gQ_eq ((onI_ok e6).trans (opA_ok e19))) (fun _ => by rw [e19]; rfl) ((Fr.rf w m (m + 11)).up u1 (by omega) (by omega)) (by decide) ⟨va_up x 0 (nI 0), _, _, _, _, _, _, _, ⟨_, _, _, mO, mS, mF, mK, hfit⟩, ⟨m2, m3, m4, m5, m6, m7, m8⟩, (up_s _ _ _), ⟨((up_n _ _ (by decide)).trans x6), ((up_n _ _ (by decide)).trans x7), ((up_n _ _ (by decide)).trans x13), ((up_n _ _ (by decide)).trans x14), ((up_n _ _ (by decide)).trans x15), ((up_n _ _ (by decide)).trans x16)⟩, hRd⟩)
    · skip
      have e19 : sGo (gS G) i = none := (oI_m1 (sGo_b hwf (show i < sNt (gS G) by omega))).mp h19
      refine J_iconst (v := nI 2) dX9_goal_22 (by decide) ?_
      refine J_goto (tgt := 27) dX9_goal_23 (by decide) ?_
      refine K_putI dX9_goal_27 fX9_47 (Or.inl rfl) mO (Nat.le_of_ble_eq_true rfl) (fun w1 u1 => ?_)
      have m2 := (u1.2.1 _ (by omega)).trans m2
      have m3 := (u1.2.1 _ (by omega)).trans m3
      have m4 := (u1.2.1 _ (by omega)).trans m4
      have m5 := (u1.2.1 _ (by omega)).trans m5
      have m6 := (u1.2.1 _ (by omega)).trans m6
      have m7 := (u1.2.1 _ (by omega)).trans m7
      have m8 := (u1.2.1 _ (by omega)).trans m8
      have mF := (u1.2.1 _ (by omega)).trans mF
      have mK := (u1.2.1 _ (by omega)).trans mK
      have mO := u1.1
      have mS := (u1.2.1 _ (by omega)).trans mS
      have mO : w1.1 m = .inr (9, [.int (nI 2), .ref (m + 1), .ref (m + 2), .ref (m + 3), .ref (m + 4), .ref (m + 5), .int (x 6), .int (x 7), .ref (m + 6), .ref (m + 7), .ref (m + 8), .ref (m + 9), .ref (m + 10), .int (x 13), .int (x 14), .int (x 15), .int (x 16), .int (x 17), .int (x 18), .int (x 19), .int (x 20), .int (x 21)]) := mO
      refine J_aload_n dX9_goal_30 rfl rfl ?_
      refine J_getfield dX9_goal_31 fX9_47 mO rfl ?_
      refine J_if_le (tgt := 41) dX9_goal_34 (by decide) (fun h34 => absurd h34 (by decide)) (fun h34 => ?_)
      refine J_iconst (v := nI 0) dX9_goal_37 (by decide) ?_
      refine J_goto (tgt := 46) dX9_goal_38 (by decide) ?_
      exact J_ireturn dX9_goal_46 rfl rfl (GM_of (c := 5) (v := 0) (G' := G) (th := 2) (gQ_eq ((onI_ok e6).trans (opA_no e19))) (fun z => absurd z (by decide)) ((Fr.rf w m (m + 11)).up u1 (by omega) (by omega)) (by decide) ⟨va_up x 0 (nI 2), _, _, _, _, _, _, _, ⟨_, _, _, mO, mS, mF, mK, hfit⟩, ⟨m2, m3, m4, m5, m6, m7, m8⟩, (up_s _ _ _), ⟨((up_n _ _ (by decide)).trans x6), ((up_n _ _ (by decide)).trans x7), ((up_n _ _ (by decide)).trans x13), ((up_n _ _ (by decide)).trans x14), ((up_n _ _ (by decide)).trans x15), ((up_n _ _ (by decide)).trans x16)⟩, hRd⟩)
  · skip
    have e6 : (vi (sNt (gS G)) y).isSome = false := b2i_eq.mp h6
    have e6 := isS_no e6
    refine J_iconst (v := nI 1) dX9_goal_9 (by decide) ?_
    refine J_goto (tgt := 27) dX9_goal_10 (by decide) ?_
    refine K_putI dX9_goal_27 fX9_47 (Or.inl rfl) mO (Nat.le_of_ble_eq_true rfl) (fun w1 u1 => ?_)
    have m2 := (u1.2.1 _ (by omega)).trans m2
    have m3 := (u1.2.1 _ (by omega)).trans m3
    have m4 := (u1.2.1 _ (by omega)).trans m4
    have m5 := (u1.2.1 _ (by omega)).trans m5
    have m6 := (u1.2.1 _ (by omega)).trans m6
    have m7 := (u1.2.1 _ (by omega)).trans m7
    have m8 := (u1.2.1 _ (by omega)).trans m8
    have mF := (u1.2.1 _ (by omega)).trans mF
    have mK := (u1.2.1 _ (by omega)).trans mK
    have mO := u1.1
    have mS := (u1.2.1 _ (by omega)).trans mS
    have mO : w1.1 m = .inr (9, [.int (nI 1), .ref (m + 1), .ref (m + 2), .ref (m + 3), .ref (m + 4), .ref (m + 5), .int (x 6), .int (x 7), .ref (m + 6), .ref (m + 7), .ref (m + 8), .ref (m + 9), .ref (m + 10), .int (x 13), .int (x 14), .int (x 15), .int (x 16), .int (x 17), .int (x 18), .int (x 19), .int (x 20), .int (x 21)]) := mO
    refine J_aload_n dX9_goal_30 rfl rfl ?_
    refine J_getfield dX9_goal_31 fX9_47 mO rfl ?_
    refine J_if_le (tgt := 41) dX9_goal_34 (by decide) (fun h34 => absurd h34 (by decide)) (fun h34 => ?_)
    refine J_iconst (v := nI 0) dX9_goal_37 (by decide) ?_
    refine J_goto (tgt := 46) dX9_goal_38 (by decide) ?_
    exact J_ireturn dX9_goal_46 rfl rfl (GM_of (c := 1) (v := 0) (G' := G) (th := 1) (gQ_eq (onI_no e6)) (fun z => absurd z (by decide)) ((Fr.rf w m (m + 11)).up u1 (by omega) (by omega)) (by decide) ⟨va_up x 0 (nI 1), _, _, _, _, _, _, _, ⟨_, _, _, mO, mS, mF, mK, hfit⟩, ⟨m2, m3, m4, m5, m6, m7, m8⟩, (up_s _ _ _), ⟨((up_n _ _ (by decide)).trans x6), ((up_n _ _ (by decide)).trans x7), ((up_n _ _ (by decide)).trans x13), ((up_n _ _ (by decide)).trans x14), ((up_n _ _ (by decide)).trans x15), ((up_n _ _ (by decide)).trans x16)⟩, hRd⟩)

theorem sgn_lt (S : St) (b : Nat) : sgn S b < 256 := by
  unfold sgn
  split
  · omega
  · split
    · omega
    · split <;> omega
theorem narC : ∀ c, c < 256 → narrow .char (.int (nI c)) = .int (nI c) := fun c hc => congrArg Value.int (i2c_n c hc)
theorem c_X9_signal {w : Wd} {m : Nat} {G : Gme} {th : Nat} (hM : RepM w m G th) (y : Int32) : MC 5 mX9_signal 0 0 [.ref m, .int y] w (GM w m [1] (gQ G (onI (sNb (gS G)) y (fun i => (0, nI (sgn (gS G) i)))))) := by
  obtain ⟨x, f2, f3, f4, f5, f6, f7, f8, hA, ⟨m2, m3, m4, m5, m6, m7, m8⟩, hx0, hRx, hRd⟩ := id hM
  obtain ⟨x6, x7, x13, x14, x15, x16⟩ := id hRx
  obtain ⟨hV, hP, hT, hO, ⟨hb8, hb60, hb14⟩, hE, hF⟩ := id hRd
  obtain ⟨f, g, h, mO, mS, mF, mK, hfit⟩ := id hA
  have hwf := hfit.2.2.2.2
  have hnb := hwf.nb
  have hnt := hwf.nt
  refine MC_j pnX9 rfl rfl rfl (Or.inr (fun E w h => RP_no E w h)) ?_
  show J 5 mX9_signal 0 [some (.ref m), some (.int y)] [] w 0 0 _
  refine J_aload_n dX9_signal_0 rfl rfl ?_
  refine J_aload_n dX9_signal_1 rfl rfl ?_
  refine J_iload_n dX9_signal_2 rfl rfl ?_
  refine K_callV dX9_signal_3 YX9_isBlock kX9_91 (rc_of mO rfl) (c_X9_isBlock mO mS hfit _) rfl rfl (Nat.le_of_ble_eq_true rfl) (by decide) ?_
  refine J_if_eq (tgt := 13) dX9_signal_6 (by decide) (fun h6 => ?_) (fun h6 => ?_)
  · skip
    have e6 : (vi (sNb (gS G)) y).isSome = false := b2i_eq.mp h6
    have e6 := isS_no e6
    refine J_iconst (v := nI 1) dX9_signal_13 (by decide) ?_
    refine K_putI dX9_signal_14 fX9_47 (Or.inl rfl) mO (Nat.le_of_ble_eq_true rfl) (fun w1 u1 => ?_)
    have m2 := (u1.2.1 _ (by omega)).trans m2
    have m3 := (u1.2.1 _ (by omega)).trans m3
    have m4 := (u1.2.1 _ (by omega)).trans m4
    have m5 := (u1.2.1 _ (by omega)).trans m5
    have m6 := (u1.2.1 _ (by omega)).trans m6
    have m7 := (u1.2.1 _ (by omega)).trans m7
    have m8 := (u1.2.1 _ (by omega)).trans m8
    have mF := (u1.2.1 _ (by omega)).trans mF
    have mK := (u1.2.1 _ (by omega)).trans mK
    have mO := u1.1
    have mS := (u1.2.1 _ (by omega)).trans mS
    have mO : w1.1 m = .inr (9, [.int (nI 1), .ref (m + 1), .ref (m + 2), .ref (m + 3), .ref (m + 4), .ref (m + 5), .int (x 6), .int (x 7), .ref (m + 6), .ref (m + 7), .ref (m + 8), .ref (m + 9), .ref (m + 10), .int (x 13), .int (x 14), .int (x 15), .int (x 16), .int (x 17), .int (x 18), .int (x 19), .int (x 20), .int (x 21)]) := mO
    refine J_aload_n dX9_signal_17 rfl rfl ?_
    refine J_getfield dX9_signal_18 fX9_47 mO rfl ?_
    refine J_if_le (tgt := 28) dX9_signal_21 (by decide) (fun h21 => absurd h21 (by decide)) (fun h21 => ?_)
    refine J_iconst (v := nI 0) dX9_signal_24 (by decide) ?_
    refine J_goto (tgt := 34) dX9_signal_25 (by decide) ?_
    exact J_ireturn dX9_signal_34 rfl rfl (GM_of (c := 1) (v := 0) (G' := G) (th := 1) (gQ_eq (onI_no e6)) (fun z => absurd z (by decide)) ((Fr.rf w m (m + 11)).up u1 (by omega) (by omega)) (by decide) ⟨va_up x 0 (nI 1), _, _, _, _, _, _, _, ⟨_, _, _, mO, mS, mF, mK, hfit⟩, ⟨m2, m3, m4, m5, m6, m7, m8⟩, (up_s _ _ _), ⟨((up_n _ _ (by decide)).trans x6), ((up_n _ _ (by decide)).trans x7), ((up_n _ _ (by decide)).trans x13), ((up_n _ _ (by decide)).trans x14), ((up_n _ _ (by decide)).trans x15), ((up_n _ _ (by decide)).trans x16)⟩, hRd⟩)
  · skip
    have e6 : (vi (sNb (gS G)) y).isSome = true := b2i_ne.mp h6
    obtain ⟨i, e6⟩ := isS_yes e6
    obtain ⟨hi, rfl⟩ := vi_some (by omega) e6
    refine J_iconst (v := nI 0) dX9_signal_9 (by decide) ?_
    refine J_goto (tgt := 14) dX9_signal_10 (by decide) ?_
    refine K_putI dX9_signal_14 fX9_47 (Or.inl rfl) mO (Nat.le_of_ble_eq_true rfl) (fun w1 u1 => ?_)
    have m2 := (u1.2.1 _ (by omega)).trans m2
    have m3 := (u1.2.1 _ (by omega)).trans m3
    have m4 := (u1.2.1 _ (by omega)).trans m4
    have m5 := (u1.2.1 _ (by omega)).trans m5
    have m6 := (u1.2.1 _ (by omega)).trans m6
    have m7 := (u1.2.1 _ (by omega)).trans m7
    have m8 := (u1.2.1 _ (by omega)).trans m8
    have mF := (u1.2.1 _ (by omega)).trans mF
    have mK := (u1.2.1 _ (by omega)).trans mK
    have mO := u1.1
    have mS := (u1.2.1 _ (by omega)).trans mS
    have mO : w1.1 m = .inr (9, [.int (nI 0), .ref (m + 1), .ref (m + 2), .ref (m + 3), .ref (m + 4), .ref (m + 5), .int (x 6), .int (x 7), .ref (m + 6), .ref (m + 7), .ref (m + 8), .ref (m + 9), .ref (m + 10), .int (x 13), .int (x 14), .int (x 15), .int (x 16), .int (x 17), .int (x 18), .int (x 19), .int (x 20), .int (x 21)]) := mO
    refine J_aload_n dX9_signal_17 rfl rfl ?_
    refine J_getfield dX9_signal_18 fX9_47 mO rfl ?_
    refine J_if_le (tgt := 28) dX9_signal_21 (by decide) (fun h21 => ?_) (fun h21 => absurd h21 (by decide))
    refine J_aload_n dX9_signal_28 rfl rfl ?_
    refine J_iload_n dX9_signal_29 rfl rfl ?_
    refine K_callV dX9_signal_30 YX9_sign kX9_151 (rc_of mO rfl) (c_X9_sign (x := va_up x 0 (nI 0)) mO mS hfit hi) rfl rfl (Nat.le_of_ble_eq_true rfl) (by decide) ?_
    refine J_i2c (v := nI (sgn (gS G) i)) dX9_signal_33 (i2c_n _ (sgn_lt _ _)) ?_
    exact J_ireturn dX9_signal_34 rfl (narC _ (sgn_lt _ _)) (GM_of (c := 0) (v := nI (sgn (gS G) i)) (G' := G) (th := 0) (gQ_eq (onI_ok e6)) (fun _ => rfl) ((Fr.rf w m (m + 11)).up u1 (by omega) (by omega)) (by decide) ⟨va_up x 0 (nI 0), _, _, _, _, _, _, _, ⟨_, _, _, mO, mS, mF, mK, hfit⟩, ⟨m2, m3, m4, m5, m6, m7, m8⟩, (up_s _ _ _), ⟨((up_n _ _ (by decide)).trans x6), ((up_n _ _ (by decide)).trans x7), ((up_n _ _ (by decide)).trans x13), ((up_n _ _ (by decide)).trans x14), ((up_n _ _ (by decide)).trans x15), ((up_n _ _ (by decide)).trans x16)⟩, hRd⟩)

end JMASK

/-! THE MODEL: what changes its railway -/
section JMCHANGE
theorem cnt_hold {S : St} (h : WF S) : cnt (sNb S) (fun b => (hOf S b).isSome) = cnt (sNt S) (fun t => (sHo S t).isSome) := by
  have key : ∀ k, k ≤ sNt S → cnt (sNb S) (fun b => (fnd k (fun t => sHo S t == some b)).isSome) = cnt k (fun t => (sHo S t).isSome) := by
    intro k
    induction k with
    | zero => intro _; exact cnt_0 fun j _ => by rw [show fnd 0 (fun t => sHo S t == some j) = none from fnd_none (fun i hi => by omega)]; rfl
    | succ k ih =>
      intro hk
      show _ = cnt k (fun t => (sHo S t).isSome) + (if (sHo S k).isSome = true then 1 else 0)
      rw [← ih (by omega)]
      cases e : sHo S k with
      | none =>
        rw [if_neg (by decide)]
        refine cnt_congr fun b hb => ?_
        rw [any_s, e]
        simp
      | some b =>
        rw [if_pos (show (some b).isSome = true from rfl)]
        have hb := h.2.2.2.2.2.2.1 k (by omega) b e
        refine cnt_one hb ?_ ?_ fun c hc hne => ?_
        · rw [show fnd k (fun t => sHo S t == some b) = none from fnd_none (fun j hj => by
            cases q : sHo S j == some b with
            | false => rfl
            | true =>
              have := h.2.2.2.2.2.2.2.2.1 j k b (by omega) (by omega) (by simpa using q) e
              omega)]
          rfl
        · rw [any_s, e]
          simp
        · rw [any_s, e]
          have : ¬ b = c := fun z => hne z.symm
          simp [this]
  exact key (sNt S) (Nat.le_refl _)
theorem c_X9_holds {w : Wd} {m : Nat} {x : Nat → Int32} {S : St} (hA : MA w m x S) (y z : Int32) : MC 5 mX9_holds 0 0 [.ref m, .int y, .int z] w (MCh w m x [1, 2, 3, 4] (oHold S y z)) := by
  obtain ⟨f, g, h, mO, mS, mF, mK, hfit⟩ := id hA
  have hwf := hfit.2.2.2.2
  have hnb := hwf.nb
  have hnt := hwf.nt
  refine MC_j pnX9 rfl rfl rfl (Or.inr (fun E w h => RP_no E w h)) ?_
  show J 5 mX9_holds 0 [some (.ref m), some (.int y), some (.int z), none, none] [] w 0 0 _
  have loop : ∀ i j S2 f2 w1, FitM f2 S2 → oHold S (nI i) (nI j) = (0, nI (cnt (sNb S2) (fun b => (hOf S2 b).isSome)), S2) → w1.1 m = mCell m x → w1.1 (m + 1) = .inl (0, 116, .inl f2) → w1.1 (m + 9) = .inl (0, 14, .inl g) → w1.1 (m + 10) = .inl (0, 14, .inl h) → FA w w1 m → ∀ n c, sNb S2 < n + c → c ≤ sNb S2 → J 5 mX9_holds 85 [some (.ref m), some (.int (nI i)), some (.int (nI j)), some (.int (nI (cnt c (fun b => (hOf S2 b).isSome)))), some (.int (nI c))] [] w1 0 0 (MCh w m x [1, 2, 3, 4] (oHold S (nI i) (nI j))) := by
    intro i j S2 f2 w1 hfit2 hR mO mS mF mK hFr n
    have hwf2 := hfit2.2.2.2.2
    have hnb2 := hwf2.nb
    have hnt2 := hwf2.nt
    induction n with
    | zero => intros; omega
    | succ n ih =>
      intro c q1 q2
      refine J_iload dX9_holds_85 rfl ?_
      refine J_aload_n dX9_holds_87 rfl rfl ?_
      refine J_getfield dX9_holds_88 fX9_7 mO rfl ?_
      refine J_iconst (v := nI 0) dX9_holds_91 (by decide) ?_
      refine K_iald (v := nI (sNb S2)) dX9_holds_92 mS (by omega) (by decide) hfit2.1.1 ?_
      refine J_icmp_ge (tgt := 120) dX9_holds_93 (by decide) (fun h93 => ?_) (fun h93 => ?_)
      · skip
        have h93 := (nI_leI (by omega) (by omega)).mp h93
        have ec : c = sNb S2 := by omega
        subst ec
        refine J_aload_n dX9_holds_120 rfl rfl ?_
        refine J_iload_n dX9_holds_121 rfl rfl ?_
        refine K_callVp dX9_holds_122 YX9_done kX9_88 (rc_of mO rfl) (c_X9_done mO _) rfl rfl (Nat.le_of_ble_eq_true rfl) (by decide) (fun v122 w122 q122 => ?_)
        obtain ⟨rfl, u122⟩ := q122
        exact J_ireturn dX9_holds_125 rfl rfl (MCh_ok (S' := S2) (y := nI (cnt (sNb S2) (fun b => (hOf S2 b).isSome))) hR ⟨_, _, _, u122.1, (u122.2.1 _ (by omega)).trans mS, (u122.2.1 _ (by omega)).trans mF, (u122.2.1 _ (by omega)).trans mK, hfit2⟩ (hFr.up u122 (by omega) (by omega)))
      · skip
        have h93 := mt (nI_leI (by omega) (by omega)).mpr h93
        refine J_iload_n dX9_holds_96 rfl rfl ?_
        refine J_aload_n dX9_holds_97 rfl rfl ?_
        refine J_iload dX9_holds_98 rfl ?_
        refine K_callV dX9_holds_100 YX9_holder kX9_78 (rc_of mO rfl) (c_X9_holder mO mS hfit2 (show c < sNb S2 by omega)) rfl rfl (Nat.le_of_ble_eq_true rfl) (by decide) ?_
        refine J_iconst (v := (-1)) dX9_holds_103 (by decide) ?_
        refine J_icmp_ne (tgt := 111) dX9_holds_104 (by decide) (fun h104 => ?_) (fun h104 => ?_)
        · skip
          obtain ⟨k104, e104⟩ : ∃ k_, hOf S2 c = some k_ := by
            cases q : hOf S2 c with
            | none => exact absurd ((oI_m1 (hOf_b hwf2)).mpr q) h104
            | some k_ => exact ⟨k_, rfl⟩
          refine J_iconst (v := nI 1) dX9_holds_111 (by decide) ?_
          refine K_iadd (v := nI (cnt c (fun b => (hOf S2 b).isSome) + 1)) dX9_holds_112 (nI_add _ _) ?_
          refine J_istore_n dX9_holds_113 rfl (by decide) rfl ?_
          refine J_iinc (v := nI (c + 1)) dX9_holds_114 rfl (nI_succ _).symm (by decide) rfl ?_
          refine J_goto (tgt := 85) dX9_holds_117 (by decide) ?_
          have ec := cnt_t (p := (fun b => (hOf S2 b).isSome)) (n := c) (by simp [e104])
          have g := ih (c + 1) (by omega) (by omega)
          rw [ec] at g
          exact g
        · skip
          have e104 : hOf S2 c = none := (oI_m1 (hOf_b hwf2)).mp h104
          refine J_iconst (v := nI 0) dX9_holds_107 (by decide) ?_
          refine J_goto (tgt := 112) dX9_holds_108 (by decide) ?_
          refine K_iadd (v := nI (cnt c (fun b => (hOf S2 b).isSome) + 0)) dX9_holds_112 (nI_add _ _) ?_
          refine J_istore_n dX9_holds_113 rfl (by decide) rfl ?_
          refine J_iinc (v := nI (c + 1)) dX9_holds_114 rfl (nI_succ _).symm (by decide) rfl ?_
          refine J_goto (tgt := 85) dX9_holds_117 (by decide) ?_
          have ec := cnt_f (p := (fun b => (hOf S2 b).isSome)) (n := c) (by simp [e104])
          have g := ih (c + 1) (by omega) (by omega)
          rw [ec] at g
          exact g
  refine J_aload_n dX9_holds_0 rfl rfl ?_
  refine J_iload_n dX9_holds_1 rfl rfl ?_
  refine K_callV dX9_holds_2 YX9_isTrain kX9_109 (rc_of mO rfl) (c_X9_isTrain mO mS hfit _) rfl rfl (Nat.le_of_ble_eq_true rfl) (by decide) ?_
  refine J_if_eq (tgt := 16) dX9_holds_5 (by decide) (fun h5 => ?_) (fun h5 => ?_)
  · skip
    have e5 : (vi (sNt S) y).isSome = false := b2i_eq.mp h5
    have e5 := isS_no e5
    refine J_iconst (v := nI 1) dX9_holds_16 (by decide) ?_
    exact J_ireturn dX9_holds_17 rfl rfl (MCh_no (l := [1, 2, 3, 4]) hA (FA.rf _ _) (c := 0) (by simp [oHold, e5]) rfl)
  · skip
    have e5 : (vi (sNt S) y).isSome = true := b2i_ne.mp h5
    obtain ⟨i, e5⟩ := isS_yes e5
    obtain ⟨hi, rfl⟩ := vi_some (by omega) e5
    refine J_aload_n dX9_holds_8 rfl rfl ?_
    refine J_iload_n dX9_holds_9 rfl rfl ?_
    refine K_callV dX9_holds_10 YX9_isBlock kX9_91 (rc_of mO rfl) (c_X9_isBlock mO mS hfit _) rfl rfl (Nat.le_of_ble_eq_true rfl) (by decide) ?_
    refine J_if_ne (tgt := 18) dX9_holds_13 (by decide) (fun h13 => ?_) (fun h13 => ?_)
    · skip
      have e13 : (vi (sNb S) z).isSome = true := b2i_ne.mp h13
      obtain ⟨j, e13⟩ := isS_yes e13
      obtain ⟨hj, rfl⟩ := vi_some (by omega) e13
      refine J_aload_n dX9_holds_18 rfl rfl ?_
      refine J_aload_n dX9_holds_19 rfl rfl ?_
      refine J_iload_n dX9_holds_20 rfl rfl ?_
      refine J_iconst (v := nI 0) dX9_holds_21 (by decide) ?_
      have hpt := hwf.2.2.2.2.1 i hi
      refine K_callV dX9_holds_22 YX9_train kX9_75 (rc_of mO rfl) (c_X9_tPl mO mS hfit (show i < sNt S by omega)) rfl rfl (Nat.le_of_ble_eq_true rfl) (by decide) ?_
      refine J_iload_n dX9_holds_25 rfl rfl ?_
      refine K_callV dX9_holds_26 YX9_linked kX9_67 (rc_of mO rfl) (c_X9_linked mO mS hfit (show sPl S i < sNb S by omega) (show j < 32 by omega)) rfl rfl (Nat.le_of_ble_eq_true rfl) (by decide) ?_
      refine J_if_ne (tgt := 34) dX9_holds_29 (by decide) (fun h29 => ?_) (fun h29 => ?_)
      · skip
        have e29 : sLk S (sPl S i) j = true := b2i_ne.mp h29
        refine J_aload_n dX9_holds_34 rfl rfl ?_
        refine J_iload_n dX9_holds_35 rfl rfl ?_
        refine K_callV dX9_holds_36 YX9_held kX9_112 (rc_of mO rfl) (c_X9_held mO mS hfit (show i < sNt S by omega)) rfl rfl (Nat.le_of_ble_eq_true rfl) (by decide) ?_
        refine J_iconst (v := (-1)) dX9_holds_39 (by decide) ?_
        refine J_icmp_eq (tgt := 45) dX9_holds_40 (by decide) (fun h40 => ?_) (fun h40 => ?_)
        · skip
          have e40 : sHo S i = none := (oI_m1 (sHo_b hwf (show i < sNt S by omega))).mp h40
          refine J_aload_n dX9_holds_45 rfl rfl ?_
          refine J_iload_n dX9_holds_46 rfl rfl ?_
          refine K_callV dX9_holds_47 YX9_inside kX9_99 (rc_of mO rfl) (c_X9_inside mO mS hfit (show j < 2 ^ 31 by omega)) rfl rfl (Nat.le_of_ble_eq_true rfl) (by decide) ?_
          refine J_iconst (v := (-1)) dX9_holds_50 (by decide) ?_
          refine J_icmp_ne (tgt := 63) dX9_holds_51 (by decide) (fun h51 => ?_) (fun h51 => ?_)
          · skip
            obtain ⟨k51, e51⟩ : ∃ k_, tAt S j = some k_ := by
              cases q : tAt S j with
              | none => exact absurd ((oI_m1 (tAt_b hwf)).mpr q) h51
              | some k_ => exact ⟨k_, rfl⟩
            refine J_iconst (v := nI 4) dX9_holds_63 (by decide) ?_
            exact J_ireturn dX9_holds_64 rfl rfl (MCh_no (l := [1, 2, 3, 4]) hA (FA.rf _ _) (c := 3) (by simp [oHold, e5, e13, e29, e40, e51]) rfl)
          · skip
            have e51 : tAt S j = none := (oI_m1 (tAt_b hwf)).mp h51
            refine J_aload_n dX9_holds_54 rfl rfl ?_
            refine J_iload_n dX9_holds_55 rfl rfl ?_
            refine K_callV dX9_holds_56 YX9_holder kX9_78 (rc_of mO rfl) (c_X9_holder mO mS hfit (show j < sNb S by omega)) rfl rfl (Nat.le_of_ble_eq_true rfl) (by decide) ?_
            refine J_iconst (v := (-1)) dX9_holds_59 (by decide) ?_
            refine J_icmp_eq (tgt := 65) dX9_holds_60 (by decide) (fun h60 => ?_) (fun h60 => ?_)
            · skip
              have e60 : hOf S j = none := (oI_m1 (hOf_b hwf)).mp h60
              refine J_aload_n dX9_holds_65 rfl rfl ?_
              refine J_getfield dX9_holds_66 fX9_7 mO rfl ?_
              refine J_iconst (v := nI 4) dX9_holds_69 (by decide) ?_
              refine J_iconst (v := nI 4) dX9_holds_70 (by decide) ?_
              refine J_iload_n dX9_holds_71 rfl rfl ?_
              refine K_imul (v := nI (4 * j)) dX9_holds_72 (nI_mul _ _) ?_
              refine K_iadd (v := nI (4 + (4 * j))) dX9_holds_73 (nI_add _ _) ?_
              refine J_iconst (v := nI 3) dX9_holds_74 (by decide) ?_
              refine K_iadd (v := nI (4 + (4 * j) + 3)) dX9_holds_75 (nI_add _ _) ?_
              refine J_iload_n dX9_holds_76 rfl rfl ?_
              refine J_iconst (v := nI 1) dX9_holds_77 (by decide) ?_
              refine K_iadd (v := nI (i + 1)) dX9_holds_78 (nI_add _ _) ?_
              refine K_iast dX9_holds_79 mS (by omega) (by decide) (fun w1 u1 => ?_)
              have mF := (u1.2.1 _ (by omega)).trans mF
              have mK := (u1.2.1 _ (by omega)).trans mK
              have mO := (u1.2.1 _ (by omega)).trans mO
              have mS := u1.1
              have hfit2 := fit_hs hfit hi hj e40 e60 (y := nI (i + 1)) rfl
              have hc2 := cnt_hold hfit2.2.2.2.2
              refine J_iconst (v := nI 0) dX9_holds_80 (by decide) ?_
              refine J_istore_n dX9_holds_81 rfl (by decide) rfl ?_
              refine J_iconst (v := nI 0) dX9_holds_82 (by decide) ?_
              refine J_istore dX9_holds_83 (by decide) rfl ?_
              exact loop i j (sHold S i (some j)) _ _ hfit2 (by rw [hc2]; simp [oHold, e5, e13, e29, e40, e51, e60]; rfl) mO mS mF mK ((FA.rf w m).up u1 (by omega) (by omega)) (sNb S + 1) 0 (by show sNb S < _; omega) (by omega)
            · skip
              obtain ⟨k60, e60⟩ : ∃ k_, hOf S j = some k_ := by
                cases q : hOf S j with
                | none => exact absurd ((oI_m1 (hOf_b hwf)).mpr q) h60
                | some k_ => exact ⟨k_, rfl⟩
              refine J_iconst (v := nI 4) dX9_holds_63 (by decide) ?_
              exact J_ireturn dX9_holds_64 rfl rfl (MCh_no (l := [1, 2, 3, 4]) hA (FA.rf _ _) (c := 3) (by simp [oHold, e5, e13, e29, e40, e51, e60]) rfl)
        · skip
          obtain ⟨k40, e40⟩ : ∃ k_, sHo S i = some k_ := by
            cases q : sHo S i with
            | none => exact absurd ((oI_m1 (sHo_b hwf (show i < sNt S by omega))).mpr q) h40
            | some k_ => exact ⟨k_, rfl⟩
          refine J_iconst (v := nI 3) dX9_holds_43 (by decide) ?_
          exact J_ireturn dX9_holds_44 rfl rfl (MCh_no (l := [1, 2, 3, 4]) hA (FA.rf _ _) (c := 2) (by simp [oHold, e5, e13, e29, e40]) rfl)
      · skip
        have e29 : sLk S (sPl S i) j = false := b2i_eq.mp h29
        refine J_iconst (v := nI 2) dX9_holds_32 (by decide) ?_
        exact J_ireturn dX9_holds_33 rfl rfl (MCh_no (l := [1, 2, 3, 4]) hA (FA.rf _ _) (c := 1) (by simp [oHold, e5, e13, e29]) rfl)
    · skip
      have e13 : (vi (sNb S) z).isSome = false := b2i_eq.mp h13
      have e13 := isS_no e13
      refine J_iconst (v := nI 1) dX9_holds_16 (by decide) ?_
      exact J_ireturn dX9_holds_17 rfl rfl (MCh_no (l := [1, 2, 3, 4]) hA (FA.rf _ _) (c := 0) (by simp [oHold, e5, e13]) rfl)

end JMCHANGE

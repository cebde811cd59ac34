/-! THE MODEL: what is asked of it -/
section JMREAD
theorem c_X9_next {w : Wd} {m : Nat} {x : Nat → Int32} {S : St} (hA : MA w m x S) {t : Nat} (ht : t < sNt S) : MC 4 mX9_next 0 0 [.ref m, .int (nI t)] w (RP (fun v w' => v = some (.int (oI (nx S t))) ∧ Fr w w' (m + 9) (m + 10) ∧ MA w' m x S)) := by
  obtain ⟨f, g, h, mO, mS, mF, mK, hfit⟩ := id hA
  have hwf := hfit.2.2.2.2
  have hnb := hwf.nb
  have hnt := hwf.nt
  have mF_0 := mF
  have mK_0 := mK
  have mO_0 := mO
  have mS_0 := mS
  refine MC_j pnX9 rfl rfl rfl (Or.inr (fun E w h => RP_no E w h)) ?_
  show J 4 mX9_next 0 [some (.ref m), some (.int (nI t)), none, none, none] [] w 0 0 _
  have hpt := hwf.2.2.2.2.1 t ht
  have after : ∀ g w1 g9, sGo S t = some g → ¬ g = sPl S t → g < sNb S → w1.1 (m + 9) = .inl (0, 14, .inl g9) → (∀ b, b < sNb S → g9 b = nI (dF 9999 (dS S b g))) → Fr w w1 (m + 9) (m + 10) → J 4 mX9_next 30 [some (.ref m), some (.int (nI t)), some (.int (nI g)), some (.int (nI (sPl S t))), none] [] w1 0 0 (RP (fun v w' => v = some (.int (oI (nx S t))) ∧ Fr w w' (m + 9) (m + 10) ∧ MA w' m x S)) := by
    intro g w1 g9 hg hne hgb mF hfar hFr
    have mK := (hFr.1 _ (by omega)).trans mK_0
    have mO := (hFr.1 _ (by omega)).trans mO_0
    have mS := (hFr.1 _ (by omega)).trans mS_0
    have loop : ∀ c, dS S (sPl S t) g = some c → c ≤ 117 → ∀ n k, sNb S < n + k → k ≤ sNb S → (∀ j, j < k → nxP S (sPl S t) g c j = false) → J 4 mX9_next 47 [some (.ref m), some (.int (nI t)), some (.int (nI g)), some (.int (nI (sPl S t))), some (.int (nI k))] [] w1 0 0 (RP (fun v w' => v = some (.int (oI (nx S t))) ∧ Fr w w' (m + 9) (m + 10) ∧ MA w' m x S)) := by
      intro c hc hcb n
      induction n with
      | zero => intros; omega
      | succ n ih =>
        intro k q1 q2 hno
        refine J_iload dX9_next_47 rfl ?_
        refine J_aload_n dX9_next_49 rfl rfl ?_
        refine J_getfield dX9_next_50 fX9_7 mO rfl ?_
        refine J_iconst (v := nI 0) dX9_next_53 (by decide) ?_
        refine K_iald (v := nI (sNb S)) dX9_next_54 mS (by omega) (by decide) hfit.1.1 ?_
        refine J_icmp_ge (tgt := 101) dX9_next_55 (by decide) (fun h55 => ?_) (fun h55 => ?_)
        · skip
          have h55 := (nI_leI (by omega) (by omega)).mp h55
          have ek : k = sNb S := by omega
          refine J_iconst (v := (-1)) dX9_next_101 (by decide) ?_
          exact J_ireturn dX9_next_102 rfl rfl (RP_i ⟨by rw [nx_of hg hne hc, show fnd (sNb S) (nxP S (sPl S t) g c) = none from fnd_none (fun j hj => hno j (by omega))]; rfl, hFr, ⟨f, _, _, mO, mS, mF, mK, hfit⟩⟩)
        · skip
          have h55 := mt (nI_leI (by omega) (by omega)).mpr h55
          have hlk := hwf.2.1 k (by omega)
          refine J_aload_n dX9_next_58 rfl rfl ?_
          refine J_iload_n dX9_next_59 rfl rfl ?_
          refine J_iload dX9_next_60 rfl ?_
          refine K_callV dX9_next_62 YX9_linked kX9_67 (rc_of mO rfl) (c_X9_linked mO mS hfit (show sPl S t < sNb S by omega) (show k < 32 by omega)) rfl rfl (Nat.le_of_ble_eq_true rfl) (by decide) ?_
          refine J_if_eq (tgt := 95) dX9_next_65 (by decide) (fun h65 => ?_) (fun h65 => ?_)
          · skip
            have e65 : sLk S (sPl S t) k = false := b2i_eq.mp h65
            refine J_iinc (v := nI (k + 1)) dX9_next_95 rfl (nI_succ _).symm (by decide) rfl ?_
            refine J_goto (tgt := 47) dX9_next_98 (by decide) ?_
            exact ih (k + 1) (by omega) (by omega) (fun j hj => by
              by_cases e : j = k
              · subst e; exact nxP_f (Or.inl e65)
              · exact hno j (by omega))
          · skip
            have e65 : sLk S (sPl S t) k = true := b2i_ne.mp h65
            refine J_aload_n dX9_next_68 rfl rfl ?_
            refine J_getfield dX9_next_69 fX9_34 mO rfl ?_
            refine J_iload dX9_next_72 rfl ?_
            have q74a := dF9_le hwf (s := k) hgb
            refine K_iald (v := nI (dF 9999 (dS S k g))) dX9_next_74 mF (by omega) (by decide) (hfar k (by omega)) ?_
            refine J_aload_n dX9_next_75 rfl rfl ?_
            refine J_iload dX9_next_76 rfl ?_
            refine J_iconst (v := nI 0) dX9_next_78 (by decide) ?_
            refine K_callV dX9_next_79 YX9_block kX9_71 (rc_of mO rfl) (c_X9_bLen mO mS hfit (show k < sNb S by omega)) rfl rfl (Nat.le_of_ble_eq_true rfl) (by decide) ?_
            refine K_iadd (v := nI (dF 9999 (dS S k g) + (sLen S k))) dX9_next_82 (nI_add _ _) ?_
            refine J_aload_n dX9_next_83 rfl rfl ?_
            refine J_getfield dX9_next_84 fX9_34 mO rfl ?_
            refine J_iload_n dX9_next_87 rfl rfl ?_
            have q88a := dF9_le hwf (s := sPl S t) hgb
            refine K_iald (v := nI (dF 9999 (dS S (sPl S t) g))) dX9_next_88 mF (by omega) (by decide) (hfar (sPl S t) (by omega)) ?_
            refine J_icmp_ne (tgt := 95) dX9_next_89 (by decide) (fun h89 => ?_) (fun h89 => ?_)
            · skip
              have h89 := mt (nI_eq (by omega) (by omega)).mpr h89
              refine J_iinc (v := nI (k + 1)) dX9_next_95 rfl (nI_succ _).symm (by decide) rfl ?_
              refine J_goto (tgt := 47) dX9_next_98 (by decide) ?_
              exact ih (k + 1) (by omega) (by omega) (fun j hj => by
                by_cases e : j = k
                · subst e; exact nxP_f (Or.inr (by rw [hc] at h89; exact h89))
                · exact hno j (by omega))
            · skip
              have h89 := (nI_eq (by omega) (by omega)).mp h89
              refine J_iload dX9_next_92 rfl ?_
              exact J_ireturn dX9_next_94 rfl rfl (RP_i ⟨by rw [nx_of hg hne hc, show fnd (sNb S) (nxP S (sPl S t) g c) = some k from fnd_some (by omega) (nxP_t e65 hcb (by rw [hc] at h89; exact h89)) hno]; rfl, hFr, ⟨f, _, _, mO, mS, mF, mK, hfit⟩⟩)
    refine J_aload_n dX9_next_30 rfl rfl ?_
    refine J_getfield dX9_next_31 fX9_34 mO rfl ?_
    refine J_iload_n dX9_next_34 rfl rfl ?_
    have q35a := dF9_le hwf (s := sPl S t) hgb
    refine K_iald (v := nI (dF 9999 (dS S (sPl S t) g))) dX9_next_35 mF (by omega) (by decide) (hfar (sPl S t) (by omega)) ?_
    refine J_sipush (v := nI 9999) dX9_next_36 (by decide) ?_
    refine J_icmp_lt (tgt := 44) dX9_next_39 (by decide) (fun h39 => ?_) (fun h39 => ?_)
    · skip
      have h39 := (nI_ltI (by omega) (by omega)).mp h39
      obtain ⟨c, hc⟩ := dF_lt h39
      refine J_iconst (v := nI 0) dX9_next_44 (by decide) ?_
      refine J_istore dX9_next_45 (by decide) rfl ?_
      exact loop c hc (dS_le hwf hgb hc) (sNb S + 1) 0 (by omega) (by omega) (fun j hj => by omega)
    · skip
      have h39 := mt (nI_ltI (by omega) (by omega)).mpr h39
      have hc := dF_ge (fun c e => dS_le hwf hgb e) h39
      refine J_iconst (v := (-1)) dX9_next_42 (by decide) ?_
      exact J_ireturn dX9_next_43 rfl rfl (RP_i ⟨by rw [nx_no hg (Or.inr hc)]; rfl, hFr, ⟨f, _, _, mO, mS, mF, mK, hfit⟩⟩)
  refine J_aload_n dX9_next_0 rfl rfl ?_
  refine J_iload_n dX9_next_1 rfl rfl ?_
  refine K_callV dX9_next_2 YX9_goalOf kX9_81 (rc_of mO rfl) (c_X9_goalOf mO mS hfit (show t < sNt S by omega)) rfl rfl (Nat.le_of_ble_eq_true rfl) (by decide) ?_
  refine J_istore_n dX9_next_5 rfl (by decide) rfl ?_
  refine J_aload_n dX9_next_6 rfl rfl ?_
  refine J_iload_n dX9_next_7 rfl rfl ?_
  refine J_iconst (v := nI 0) dX9_next_8 (by decide) ?_
  refine K_callV dX9_next_9 YX9_train kX9_75 (rc_of mO rfl) (c_X9_tPl mO mS hfit (show t < sNt S by omega)) rfl rfl (Nat.le_of_ble_eq_true rfl) (by decide) ?_
  refine J_istore_n dX9_next_12 rfl (by decide) rfl ?_
  refine J_iload_n dX9_next_13 rfl rfl ?_
  refine J_iconst (v := (-1)) dX9_next_14 (by decide) ?_
  refine J_icmp_eq (tgt := 23) dX9_next_15 (by decide) (fun h15 => ?_) (fun h15 => ?_)
  · skip
    have e15 : sGo S t = none := (oI_m1 (sGo_b hwf (show t < sNt S by omega))).mp h15
    refine J_iconst (v := (-1)) dX9_next_23 (by decide) ?_
    exact J_ireturn dX9_next_24 rfl rfl (RP_i ⟨by rw [nx_ng e15]; rfl, Fr.rf _ _ _, hA⟩)
  · skip
    obtain ⟨g, e15⟩ : ∃ k_, sGo S t = some k_ := by
      cases q : sGo S t with
      | none => exact absurd ((oI_m1 (sGo_b hwf (show t < sNt S by omega))).mpr q) h15
      | some k_ => exact ⟨k_, rfl⟩
    rw [e15, oI_s]
    have hgb := hwf.2.2.2.2.2.1 t ht _ e15
    refine J_iload_n dX9_next_18 rfl rfl ?_
    refine J_iload_n dX9_next_19 rfl rfl ?_
    refine J_icmp_ne (tgt := 25) dX9_next_20 (by decide) (fun h20 => ?_) (fun h20 => ?_)
    · skip
      have h20 := mt (nI_eq (by omega) (by omega)).mpr h20
      refine J_aload_n dX9_next_25 rfl rfl ?_
      refine J_iload_n dX9_next_26 rfl rfl ?_
      refine K_callVp dX9_next_27 YX9_ways kX9_84 (rc_of mO rfl) (c_X9_ways hA (show g < sNb S from hgb)) rfl rfl (Nat.le_of_ble_eq_true rfl) (by decide) (fun v27 w27 q27 => ?_)
      obtain ⟨rfl, hF27, g27, mF27, hfar27⟩ := q27
      exact after g _ _ e15 h20 hgb mF27 hfar27 hF27
    · skip
      have h20 := (nI_eq (by omega) (by omega)).mp h20
      refine J_iconst (v := (-1)) dX9_next_23 (by decide) ?_
      exact J_ireturn dX9_next_24 rfl rfl (RP_i ⟨by rw [nx_no e15 (Or.inl h20)]; rfl, Fr.rf _ _ _, hA⟩)

theorem c_X9_blocker {w : Wd} {m : Nat} {x : Nat → Int32} {S : St} (hA : MA w m x S) {t : Nat} (ht : t < sNt S) : MC 5 mX9_blocker 0 0 [.ref m, .int (nI t)] w (RP (fun v w' => v = some (.int (oI (bk S t))) ∧ Fr w w' (m + 9) (m + 10) ∧ MA w' m x S)) := by
  obtain ⟨f, g, h, mO, mS, mF, mK, hfit⟩ := id hA
  have hwf := hfit.2.2.2.2
  have hnb := hwf.nb
  have hnt := hwf.nt
  refine MC_j pnX9 rfl rfl rfl (Or.inr (fun E w h => RP_no E w h)) ?_
  show J 5 mX9_blocker 0 [some (.ref m), some (.int (nI t)), none] [] w 0 0 _
  refine J_aload_n dX9_blocker_0 rfl rfl ?_
  refine J_iload_n dX9_blocker_1 rfl rfl ?_
  refine J_iconst (v := nI 4) dX9_blocker_2 (by decide) ?_
  refine K_callV dX9_blocker_3 YX9_train kX9_75 (rc_of mO rfl) (c_X9_tOf mO mS hfit (show t < sNt S by omega)) rfl rfl (Nat.le_of_ble_eq_true rfl) (by decide) ?_
  refine J_iconst (v := nI 1) dX9_blocker_6 (by decide) ?_
  refine J_icmp_ne (tgt := 14) dX9_blocker_7 (by decide) (fun h7 => ?_) (fun h7 => ?_)
  · skip
    have e7 : sOf S t = false := b2i_n1 h7
    refine J_aload_n dX9_blocker_14 rfl rfl ?_
    refine J_iload_n dX9_blocker_15 rfl rfl ?_
    refine K_callVp dX9_blocker_16 YX9_next kX9_115 (rc_of mO rfl) (c_X9_next hA ht) rfl rfl (Nat.le_of_ble_eq_true rfl) (by decide) (fun v16 w16 q16 => ?_)
    obtain ⟨rfl, hF16, hA16⟩ := q16
    have mK := (hF16.1 _ (by omega)).trans mK
    have mO := (hF16.1 _ (by omega)).trans mO
    have mS := (hF16.1 _ (by omega)).trans mS
    refine J_istore_n dX9_blocker_19 rfl (by decide) rfl ?_
    refine J_iload_n dX9_blocker_20 rfl rfl ?_
    refine J_iconst (v := (-1)) dX9_blocker_21 (by decide) ?_
    refine J_icmp_ne (tgt := 29) dX9_blocker_22 (by decide) (fun h22 => ?_) (fun h22 => ?_)
    · skip
      obtain ⟨b, e22⟩ : ∃ k_, nx S t = some k_ := by
        cases q : nx S t with
        | none => exact absurd ((oI_m1 (nx_b hwf)).mpr q) h22
        | some k_ => exact ⟨k_, rfl⟩
      rw [e22, oI_s]
      
      refine J_aload_n dX9_blocker_29 rfl rfl ?_
      refine J_iload_n dX9_blocker_30 rfl rfl ?_
      have hb := (nx_lt e22).1
      refine K_callV dX9_blocker_31 YX9_inside kX9_99 (rc_of mO rfl) (c_X9_inside mO mS hfit (show b < 2 ^ 31 by omega)) rfl rfl (Nat.le_of_ble_eq_true rfl) (by decide) ?_
      exact J_ireturn dX9_blocker_34 rfl rfl (RP_i ⟨by rw [show bk S t = tAt S b from by unfold bk; rw [if_neg (by rw [e7]; decide), e22]], hF16, hA16⟩)
    · skip
      have e22 : nx S t = none := (oI_m1 (nx_b hwf)).mp h22
      
      refine J_iconst (v := (-1)) dX9_blocker_25 (by decide) ?_
      refine J_goto (tgt := 34) dX9_blocker_26 (by decide) ?_
      exact J_ireturn dX9_blocker_34 rfl rfl (RP_i ⟨by rw [show bk S t = none from by unfold bk; rw [if_neg (by rw [e7]; decide), e22]]; rfl, hF16, hA16⟩)
  · skip
    have e7 : sOf S t = true := b2i_1.mp h7
    refine J_iconst (v := (-1)) dX9_blocker_10 (by decide) ?_
    refine J_goto (tgt := 19) dX9_blocker_11 (by decide) ?_
    refine J_istore_n dX9_blocker_19 rfl (by decide) rfl ?_
    refine J_iload_n dX9_blocker_20 rfl rfl ?_
    refine J_iconst (v := (-1)) dX9_blocker_21 (by decide) ?_
    refine J_icmp_ne (tgt := 29) dX9_blocker_22 (by decide) (fun h22 => absurd h22 (by decide)) (fun h22 => ?_)
    refine J_iconst (v := (-1)) dX9_blocker_25 (by decide) ?_
    refine J_goto (tgt := 34) dX9_blocker_26 (by decide) ?_
    exact J_ireturn dX9_blocker_34 rfl rfl (RP_i ⟨by rw [show bk S t = none from by unfold bk; rw [if_pos e7]]; rfl, Fr.rf _ _ _, hA⟩)

end JMREAD

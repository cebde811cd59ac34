/-! THE MODEL: what is asked of it -/
section JMREAD
theorem c_X9_ways {w : Wd} {m : Nat} {x : Nat → Int32} {S : St} (hA : MA w m x S) {q : Nat} (hq : q < sNb S) : MC 3 mX9_ways 0 0 [.ref m, .int (nI q)] w (RP (fun v w' => v = none ∧ Fr w w' (m + 9) (m + 10) ∧ ∃ g : Nat → Int32, w'.1 (m + 9) = .inl (0, 14, .inl g) ∧ ∀ b, b < sNb S → g b = nI (dF 9999 (dS S b q)))) := by
  obtain ⟨f, g, h, mO, mS, mF, mK, hfit⟩ := id hA
  have hwf := hfit.2.2.2.2
  have hnb := hwf.nb
  have hnt := hwf.nt
  have mF_0 := mF
  have mO_0 := mO
  have mS_0 := mS
  refine MC_j pnX9 rfl rfl rfl (Or.inr (fun E w h => RP_no E w h)) ?_
  show J 3 mX9_ways 0 [some (.ref m), some (.int (nI q)), none, none, none] [] w 0 0 _
  have out : ∀ (v : Nat → Nat) (g : Nat → Int32) (w1 : Wd) o3 o4, (∀ b, b < sNb S → v b = dF 9999 (dS S b q)) → w1.1 (m + 9) = .inl (0, 14, .inl g) → (∀ b, b < sNb S → g b = nI (v b)) → Fr w w1 (m + 9) (m + 10) → J 3 mX9_ways 32 [some (.ref m), some (.int (nI q)), some (.int (b2i false)), o3, o4] [] w1 0 0 (RP (fun v w' => v = none ∧ Fr w w' (m + 9) (m + 10) ∧ ∃ g : Nat → Int32, w'.1 (m + 9) = .inl (0, 14, .inl g) ∧ ∀ b, b < sNb S → g b = nI (dF 9999 (dS S b q)))) := by
    intro v g w1 o3 o4 hv mF hfar hFr
    have mO := (hFr.1 _ (by omega)).trans mO_0
    have mS := (hFr.1 _ (by omega)).trans mS_0
    refine J_iload_n dX9_ways_32 rfl rfl ?_
    refine J_if_eq (tgt := 139) dX9_ways_33 (by decide) (fun h33 => ?_) (fun h33 => absurd rfl h33)
    exact J_return dX9_ways_139 rfl (RP_i ⟨rfl, hFr, g, mF, fun b hb => by rw [hfar b hb, hv b hb]⟩)
  have round : ∀ M v g w1 o3 o4, sm v (sNb S) < M → WOk S q v → w1.1 (m + 9) = .inl (0, 14, .inl g) → (∀ b, b < sNb S → g b = nI (v b)) → Fr w w1 (m + 9) (m + 10) → J 3 mX9_ways 32 [some (.ref m), some (.int (nI q)), some (.int (nI 1)), o3, o4] [] w1 0 0 (RP (fun v w' => v = none ∧ Fr w w' (m + 9) (m + 10) ∧ ∃ g : Nat → Int32, w'.1 (m + 9) = .inl (0, 14, .inl g) ∧ ∀ b, b < sNb S → g b = nI (dF 9999 (dS S b q)))) := by
    intro M
    induction M with
    | zero => intros; omega
    | succ M ihM =>
      intro v0 g w1 o3 o4 hM hWO mF hfar hFr
      have loopa : ∀ n a v g sh w1 o4, sNb S < n + a → a ≤ sNb S → WI S q v0 v sh a 0 → w1.1 (m + 9) = .inl (0, 14, .inl g) → (∀ b, b < sNb S → g b = nI (v b)) → Fr w w1 (m + 9) (m + 10) → J 3 mX9_ways 40 [some (.ref m), some (.int (nI q)), some (.int (b2i sh)), some (.int (nI a)), o4] [] w1 0 0 (RP (fun v w' => v = none ∧ Fr w w' (m + 9) (m + 10) ∧ ∃ g : Nat → Int32, w'.1 (m + 9) = .inl (0, 14, .inl g) ∧ ∀ b, b < sNb S → g b = nI (dF 9999 (dS S b q)))) := by
        intro n
        induction n with
        | zero => intros; omega
        | succ n iha =>
          intro a v g sh w1 o4 q1 q2 hW mF hfar hFr
          have innerb : a < sNb S → ∀ p b v g sh w1, sNb S < p + b → b ≤ sNb S → WI S q v0 v sh a b → w1.1 (m + 9) = .inl (0, 14, .inl g) → (∀ b, b < sNb S → g b = nI (v b)) → Fr w w1 (m + 9) (m + 10) → J 3 mX9_ways 53 [some (.ref m), some (.int (nI q)), some (.int (b2i sh)), some (.int (nI a)), some (.int (nI b))] [] w1 0 0 (RP (fun v w' => v = none ∧ Fr w w' (m + 9) (m + 10) ∧ ∃ g : Nat → Int32, w'.1 (m + 9) = .inl (0, 14, .inl g) ∧ ∀ b, b < sNb S → g b = nI (dF 9999 (dS S b q)))) := by
            intro hab p
            induction p with
            | zero => intros; omega
            | succ p ihb =>
              intro b v g sh w1 q3 q4 hW mF hfar hFr
              have mO := (hFr.1 _ (by omega)).trans mO_0
              have mS := (hFr.1 _ (by omega)).trans mS_0
              refine J_iload dX9_ways_53 rfl ?_
              refine J_aload_n dX9_ways_55 rfl rfl ?_
              refine J_getfield dX9_ways_56 fX9_7 mO rfl ?_
              refine J_iconst (v := nI 0) dX9_ways_59 (by decide) ?_
              refine K_iald (v := nI (sNb S)) dX9_ways_60 mS (by omega) (by decide) hfit.1.1 ?_
              refine J_icmp_ge (tgt := 130) dX9_ways_61 (by decide) (fun h61 => ?_) (fun h61 => ?_)
              · skip
                have h61 := (nI_leI (by omega) (by omega)).mp h61
                have eb : b = sNb S := by omega
                subst eb
                refine J_iinc (v := nI (a + 1)) dX9_ways_130 rfl (nI_succ _).symm (by decide) rfl ?_
                refine J_goto (tgt := 40) dX9_ways_133 (by decide) ?_
                exact iha (a + 1) v _ sh _ _ (by omega) (by omega) (wi_row hwf hW) mF hfar hFr
              · skip
                have h61 := mt (nI_leI (by omega) (by omega)).mpr h61
                have hlb := hwf.2.1 b (by omega)
                refine J_aload_n dX9_ways_64 rfl rfl ?_
                refine J_iload_n dX9_ways_65 rfl rfl ?_
                refine J_iload dX9_ways_66 rfl ?_
                refine K_callV dX9_ways_68 YX9_linked kX9_67 (rc_of mO rfl) (c_X9_linked mO mS hfit (show a < sNb S by omega) (show b < 32 by omega)) rfl rfl (Nat.le_of_ble_eq_true rfl) (by decide) ?_
                refine J_if_eq (tgt := 124) dX9_ways_71 (by decide) (fun h71 => ?_) (fun h71 => ?_)
                · skip
                  have e71 : sLk S a b = false := b2i_eq.mp h71
                  refine J_iinc (v := nI (b + 1)) dX9_ways_124 rfl (nI_succ _).symm (by decide) rfl ?_
                  refine J_goto (tgt := 53) dX9_ways_127 (by decide) ?_
                  exact ihb (b + 1) v _ sh _ (by omega) (by omega) (wi_no hW (Or.inl e71)) mF hfar hFr
                · skip
                  have e71 : sLk S a b = true := b2i_ne.mp h71
                  refine J_aload_n dX9_ways_74 rfl rfl ?_
                  refine J_getfield dX9_ways_75 fX9_34 mO rfl ?_
                  refine J_iload dX9_ways_78 rfl ?_
                  have q80a := hW.1.2.2 b (by omega)
                  refine K_iald (v := nI (v b)) dX9_ways_80 mF (by omega) (by decide) (hfar b (by omega)) ?_
                  refine J_aload_n dX9_ways_81 rfl rfl ?_
                  refine J_iload dX9_ways_82 rfl ?_
                  refine J_iconst (v := nI 0) dX9_ways_84 (by decide) ?_
                  refine K_callV dX9_ways_85 YX9_block kX9_71 (rc_of mO rfl) (c_X9_bLen mO mS hfit (show b < sNb S by omega)) rfl rfl (Nat.le_of_ble_eq_true rfl) (by decide) ?_
                  refine K_iadd (v := nI (v b + (sLen S b))) dX9_ways_88 (nI_add _ _) ?_
                  refine J_aload_n dX9_ways_89 rfl rfl ?_
                  refine J_getfield dX9_ways_90 fX9_34 mO rfl ?_
                  refine J_iload_n dX9_ways_93 rfl rfl ?_
                  have q94a := hW.1.2.2 a (by omega)
                  refine K_iald (v := nI (v a)) dX9_ways_94 mF (by omega) (by decide) (hfar a (by omega)) ?_
                  refine J_icmp_lt (tgt := 101) dX9_ways_95 (by decide) (fun h95 => ?_) (fun h95 => ?_)
                  · skip
                    have h95 := (nI_ltI (by omega) (by omega)).mp h95
                    refine J_aload_n dX9_ways_101 rfl rfl ?_
                    refine J_getfield dX9_ways_102 fX9_34 mO rfl ?_
                    refine J_iload_n dX9_ways_105 rfl rfl ?_
                    refine J_aload_n dX9_ways_106 rfl rfl ?_
                    refine J_getfield dX9_ways_107 fX9_34 mO rfl ?_
                    refine J_iload dX9_ways_110 rfl ?_
                    have q112a := hW.1.2.2 b (by omega)
                    refine K_iald (v := nI (v b)) dX9_ways_112 mF (by omega) (by decide) (hfar b (by omega)) ?_
                    refine J_aload_n dX9_ways_113 rfl rfl ?_
                    refine J_iload dX9_ways_114 rfl ?_
                    refine J_iconst (v := nI 0) dX9_ways_116 (by decide) ?_
                    refine K_callV dX9_ways_117 YX9_block kX9_71 (rc_of mO rfl) (c_X9_bLen mO mS hfit (show b < sNb S by omega)) rfl rfl (Nat.le_of_ble_eq_true rfl) (by decide) ?_
                    refine K_iadd (v := nI (v b + (sLen S b))) dX9_ways_120 (nI_add _ _) ?_
                    refine K_iast dX9_ways_121 mF (by omega) (by decide) (fun w1 u1 => ?_)
                    have mF := u1.1
                    have mO := (u1.2.1 _ (by omega)).trans mO
                    have mS := (u1.2.1 _ (by omega)).trans mS
                    refine J_iconst (v := b2i true) dX9_ways_122 (by decide) ?_
                    refine J_istore_n dX9_ways_123 rfl (by decide) rfl ?_
                    refine J_iinc (v := nI (b + 1)) dX9_ways_124 rfl (nI_succ _).symm (by decide) rfl ?_
                    refine J_goto (tgt := 53) dX9_ways_127 (by decide) ?_
                    exact ihb (b + 1) (va_up v a (v b + sLen S b)) _ true _ (by omega) (by omega) (wi_yes hW (by omega) (by omega) e71 h95) mF (fun c hc => up_F nI rfl (fun _ => hfar c hc)) (hFr.up u1 (by omega) (by omega))
                  · skip
                    have h95 := mt (nI_ltI (by omega) (by omega)).mpr h95
                    refine J_goto (tgt := 124) dX9_ways_98 (by decide) ?_
                    refine J_iinc (v := nI (b + 1)) dX9_ways_124 rfl (nI_succ _).symm (by decide) rfl ?_
                    refine J_goto (tgt := 53) dX9_ways_127 (by decide) ?_
                    exact ihb (b + 1) v _ sh _ (by omega) (by omega) (wi_no hW (Or.inr (by omega))) mF hfar hFr
          have mO := (hFr.1 _ (by omega)).trans mO_0
          have mS := (hFr.1 _ (by omega)).trans mS_0
          refine J_iload_n dX9_ways_40 rfl rfl ?_
          refine J_aload_n dX9_ways_41 rfl rfl ?_
          refine J_getfield dX9_ways_42 fX9_7 mO rfl ?_
          refine J_iconst (v := nI 0) dX9_ways_45 (by decide) ?_
          refine K_iald (v := nI (sNb S)) dX9_ways_46 mS (by omega) (by decide) hfit.1.1 ?_
          refine J_icmp_ge (tgt := 136) dX9_ways_47 (by decide) (fun h47 => ?_) (fun h47 => ?_)
          · skip
            have h47 := (nI_leI (by omega) (by omega)).mp h47
            have ea : a = sNb S := by omega
            subst ea
            refine J_goto (tgt := 32) dX9_ways_136 (by decide) ?_
            cases sh with
            | true => exact ihM v _ _ _ _ (by have := hW.2.2 rfl; omega) hW.1 mF hfar hFr
            | false => exact out _ _ _ _ _ (wi_end hwf hq hW) mF hfar hFr
          · skip
            have h47 := mt (nI_leI (by omega) (by omega)).mpr h47
            refine J_iconst (v := nI 0) dX9_ways_50 (by decide) ?_
            refine J_istore dX9_ways_51 (by decide) rfl ?_
            exact innerb (by omega) (sNb S + 1) 0 v g sh w1 (by omega) (by omega) hW mF hfar hFr
      have v : Nat → Nat := v0
      have mO := (hFr.1 _ (by omega)).trans mO_0
      have mS := (hFr.1 _ (by omega)).trans mS_0
      refine J_iload_n dX9_ways_32 rfl rfl ?_
      refine J_if_eq (tgt := 139) dX9_ways_33 (by decide) (fun h33 => absurd h33 (by decide)) (fun h33 => ?_)
      refine J_iconst (v := b2i false) dX9_ways_36 (by decide) ?_
      refine J_istore_n dX9_ways_37 rfl (by decide) rfl ?_
      refine J_iconst (v := nI 0) dX9_ways_38 (by decide) ?_
      refine J_istore_n dX9_ways_39 rfl (by decide) rfl ?_
      exact loopa (sNb S + 1) 0 v0 g false w1 _ (by omega) (by omega) (wi_0 hWO) mF hfar hFr
  have start : ∀ g w1 o2, w1.1 (m + 9) = .inl (0, 14, .inl g) → (∀ b, b < 14 → g b = nI 9999) → Fr w w1 (m + 9) (m + 10) → J 3 mX9_ways 23 [some (.ref m), some (.int (nI q)), o2, none, none] [] w1 0 0 (RP (fun v w' => v = none ∧ Fr w w' (m + 9) (m + 10) ∧ ∃ g : Nat → Int32, w'.1 (m + 9) = .inl (0, 14, .inl g) ∧ ∀ b, b < sNb S → g b = nI (dF 9999 (dS S b q)))) := by
    intro g w1 o2 mF hrow hFr
    have mO := (hFr.1 _ (by omega)).trans mO_0
    have mS := (hFr.1 _ (by omega)).trans mS_0
    refine J_aload_n dX9_ways_23 rfl rfl ?_
    refine J_getfield dX9_ways_24 fX9_34 mO rfl ?_
    refine J_iload_n dX9_ways_27 rfl rfl ?_
    refine J_iconst (v := nI 0) dX9_ways_28 (by decide) ?_
    refine K_iast dX9_ways_29 mF (by omega) (by decide) (fun w2 u2 => ?_)
    have mF := u2.1
    have mO := (u2.2.1 _ (by omega)).trans mO
    have mS := (u2.2.1 _ (by omega)).trans mS
    refine J_iconst (v := nI 1) dX9_ways_30 (by decide) ?_
    refine J_istore_n dX9_ways_31 rfl (by decide) rfl ?_
    exact round (sm (row9 q) (sNb S) + 1) (row9 q) _ w2 none none (by omega) wok_0 mF (fun b hb => by
      unfold row9
      by_cases e : b = q
      · subst e; rw [up_s, if_pos rfl]
      · rw [up_n _ _ e, if_neg e]; exact hrow b (by omega)) (hFr.up u2 (by omega) (by omega))
  have loop0 : ∀ n k g w1, 14 < n + k → k ≤ 14 → w1.1 (m + 9) = .inl (0, 14, .inl g) → (∀ j, j < k → g j = nI 9999) → Fr w w1 (m + 9) (m + 10) → J 3 mX9_ways 2 [some (.ref m), some (.int (nI q)), some (.int (nI k)), none, none] [] w1 0 0 (RP (fun v w' => v = none ∧ Fr w w' (m + 9) (m + 10) ∧ ∃ g : Nat → Int32, w'.1 (m + 9) = .inl (0, 14, .inl g) ∧ ∀ b, b < sNb S → g b = nI (dF 9999 (dS S b q)))) := by
    intro n
    induction n with
    | zero => intros; omega
    | succ n ih0 =>
      intro k g w1 q1 q2 mF hrow hFr
      have mO := (hFr.1 _ (by omega)).trans mO_0
      have mS := (hFr.1 _ (by omega)).trans mS_0
      refine J_iload_n dX9_ways_2 rfl rfl ?_
      refine J_bipush (v := nI 14) dX9_ways_3 (by decide) ?_
      refine J_icmp_ge (tgt := 23) dX9_ways_5 (by decide) (fun h5 => ?_) (fun h5 => ?_)
      · skip
        have h5 := (nI_leI (by omega) (by omega)).mp h5
        have ek : k = 14 := by omega
        exact start _ _ _ mF (fun j hj => hrow j (by omega)) hFr
      · skip
        have h5 := mt (nI_leI (by omega) (by omega)).mpr h5
        refine J_aload_n dX9_ways_8 rfl rfl ?_
        refine J_getfield dX9_ways_9 fX9_34 mO rfl ?_
        refine J_iload_n dX9_ways_12 rfl rfl ?_
        refine J_sipush (v := nI 9999) dX9_ways_13 (by decide) ?_
        refine K_iast dX9_ways_16 mF (by omega) (by decide) (fun w1 u1 => ?_)
        have mF := u1.1
        have mO := (u1.2.1 _ (by omega)).trans mO
        have mS := (u1.2.1 _ (by omega)).trans mS
        refine J_iinc (v := nI (k + 1)) dX9_ways_17 rfl (nI_succ _).symm (by decide) rfl ?_
        refine J_goto (tgt := 2) dX9_ways_20 (by decide) ?_
        exact ih0 (k + 1) _ _ (by omega) (by omega) mF (fun j hj => by
          by_cases e : j = k
          · subst e; rw [up_s]
          · rw [up_n _ _ e]; exact hrow j (by omega)) (hFr.up u1 (by omega) (by omega))
  refine J_iconst (v := nI 0) dX9_ways_0 (by decide) ?_
  refine J_istore_n dX9_ways_1 rfl (by decide) rfl ?_
  exact loop0 15 0 g w (by omega) (by omega) mF (fun j hj => by omega) (Fr.rf _ _ _)

end JMREAD

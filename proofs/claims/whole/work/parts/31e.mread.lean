/-! THE MODEL: what is asked of it -/
section JMREAD
theorem c_X9_ranked {w : Wd} {m : Nat} {x : Nat → Int32} {f : Nat → Int32} {S : St} (mO : w.1 m = mCell m x) (mS : w.1 (m + 1) = .inl (0, 116, .inl f)) (hfit : FitM f S) (r : Int32) : MC 3 mX9_ranked 0 0 [.ref m, .int r] w (RI (.int (oI (rkX S r))) w) := by
  have hwf := hfit.2.2.2.2
  have hnb := hwf.nb
  have hnt := hwf.nt
  refine MC_j pnX9 rfl rfl rfl (Or.inr (fun E w h => by cases h.1)) ?_
  show J 3 mX9_ranked 0 [some (.ref m), some (.int r), none, none, none] [] w 0 0 _
  have loop : ∀ n t o3 o4, sNt S < n + t → t ≤ sNt S → (∀ j, j < t → decide (nI (ahd S j) = r) = false) → J 3 mX9_ranked 2 [some (.ref m), some (.int r), some (.int (nI t)), o3, o4] [] w 0 0 (RI (.int (oI (rkX S r))) w) := by
    intro n
    induction n with
    | zero => intros; omega
    | succ n ih =>
      intro t o3 o4 q1 q2 hno
      have fin : t < sNt S → J 3 mX9_ranked 80 [some (.ref m), some (.int r), some (.int (nI t)), some (.int (nI (cnt (sNt S) (fun u => decide (sPr S t < sPr S u) || (sPr S u == sPr S t && decide (u < t)))))), some (.int (nI (sNt S)))] [] w 0 0 (RI (.int (oI (rkX S r))) w) := by
        intro htb
        refine J_iload_n dX9_ranked_80 rfl rfl ?_
        refine J_iload_n dX9_ranked_81 rfl rfl ?_
        refine J_icmp_ne (tgt := 87) dX9_ranked_82 (by decide) (fun h82 => ?_) (fun h82 => ?_)
        · skip
          refine J_iinc (v := nI (t + 1)) dX9_ranked_87 rfl (nI_succ _).symm (by decide) rfl ?_
          refine J_goto (tgt := 2) dX9_ranked_90 (by decide) ?_
          exact ih (t + 1) _ _ (by omega) (by omega) (fun j hj => by
            by_cases e : j = t
            · subst e; exact decide_eq_false h82
            · exact hno j (by omega))
        · skip
          refine J_iload_n dX9_ranked_85 rfl rfl ?_
          exact J_ireturn dX9_ranked_86 rfl rfl ⟨by rw [show rkX S r = some t from fnd_some (show t < sNt S by omega) (decide_eq_true h82) hno]; rfl, rfl⟩
      have inner : t < sNt S → ∀ p u, sNt S < p + u → u ≤ sNt S → J 3 mX9_ranked 17 [some (.ref m), some (.int r), some (.int (nI t)), some (.int (nI (cnt u (fun u => decide (sPr S t < sPr S u) || (sPr S u == sPr S t && decide (u < t)))))), some (.int (nI u))] [] w 0 0 (RI (.int (oI (rkX S r))) w) := by
        intro htb p
        induction p with
        | zero => intros; omega
        | succ p ihu =>
          intro u q3 q4
          refine J_iload dX9_ranked_17 rfl ?_
          refine J_aload_n dX9_ranked_19 rfl rfl ?_
          refine J_getfield dX9_ranked_20 fX9_7 mO rfl ?_
          refine J_iconst (v := nI 1) dX9_ranked_23 (by decide) ?_
          refine K_iald (v := nI (sNt S)) dX9_ranked_24 mS (by omega) (by decide) hfit.1.2.1 ?_
          refine J_icmp_ge (tgt := 80) dX9_ranked_25 (by decide) (fun h25 => ?_) (fun h25 => ?_)
          · skip
            have h25 := (nI_leI (by omega) (by omega)).mp h25
            have eu : u = sNt S := by omega
            subst eu
            exact fin (by omega)
          · skip
            have h25 := mt (nI_leI (by omega) (by omega)).mpr h25
            have hpu := hwf.2.2.2.2.1 u (by omega)
            have hpt := hwf.2.2.2.2.1 t (by omega)
            refine J_iload_n dX9_ranked_28 rfl rfl ?_
            refine J_aload_n dX9_ranked_29 rfl rfl ?_
            refine J_iload dX9_ranked_30 rfl ?_
            refine J_iconst (v := nI 1) dX9_ranked_32 (by decide) ?_
            refine K_callV dX9_ranked_33 YX9_train kX9_75 (rc_of mO rfl) (c_X9_tPr mO mS hfit (show u < sNt S by omega)) rfl rfl (Nat.le_of_ble_eq_true rfl) (by decide) ?_
            refine J_aload_n dX9_ranked_36 rfl rfl ?_
            refine J_iload_n dX9_ranked_37 rfl rfl ?_
            refine J_iconst (v := nI 1) dX9_ranked_38 (by decide) ?_
            refine K_callV dX9_ranked_39 YX9_train kX9_75 (rc_of mO rfl) (c_X9_tPr mO mS hfit (show t < sNt S by omega)) rfl rfl (Nat.le_of_ble_eq_true rfl) (by decide) ?_
            refine J_icmp_gt (tgt := 67) dX9_ranked_42 (by decide) (fun h42 => ?_) (fun h42 => ?_)
            · skip
              have h42 := (nI_ltI (by omega) (by omega)).mp h42
              refine J_iconst (v := nI 1) dX9_ranked_67 (by decide) ?_
              refine J_goto (tgt := 72) dX9_ranked_68 (by decide) ?_
              refine K_iadd (v := nI (cnt u (fun u => decide (sPr S t < sPr S u) || (sPr S u == sPr S t && decide (u < t))) + 1)) dX9_ranked_72 (nI_add _ _) ?_
              refine J_istore_n dX9_ranked_73 rfl (by decide) rfl ?_
              refine J_iinc (v := nI (u + 1)) dX9_ranked_74 rfl (nI_succ _).symm (by decide) rfl ?_
              refine J_goto (tgt := 17) dX9_ranked_77 (by decide) ?_
              have ec := cnt_t (p := (fun u => decide (sPr S t < sPr S u) || (sPr S u == sPr S t && decide (u < t)))) (n := u) (by simp; omega)
              have g := ihu (u + 1) (by omega) (by omega)
              rw [ec] at g
              exact g
            · skip
              have h42 := mt (nI_ltI (by omega) (by omega)).mpr h42
              refine J_aload_n dX9_ranked_45 rfl rfl ?_
              refine J_iload dX9_ranked_46 rfl ?_
              refine J_iconst (v := nI 1) dX9_ranked_48 (by decide) ?_
              refine K_callV dX9_ranked_49 YX9_train kX9_75 (rc_of mO rfl) (c_X9_tPr mO mS hfit (show u < sNt S by omega)) rfl rfl (Nat.le_of_ble_eq_true rfl) (by decide) ?_
              refine J_aload_n dX9_ranked_52 rfl rfl ?_
              refine J_iload_n dX9_ranked_53 rfl rfl ?_
              refine J_iconst (v := nI 1) dX9_ranked_54 (by decide) ?_
              refine K_callV dX9_ranked_55 YX9_train kX9_75 (rc_of mO rfl) (c_X9_tPr mO mS hfit (show t < sNt S by omega)) rfl rfl (Nat.le_of_ble_eq_true rfl) (by decide) ?_
              refine J_icmp_ne (tgt := 71) dX9_ranked_58 (by decide) (fun h58 => ?_) (fun h58 => ?_)
              · skip
                have h58 := mt (nI_eq (by omega) (by omega)).mpr h58
                refine J_iconst (v := nI 0) dX9_ranked_71 (by decide) ?_
                refine K_iadd (v := nI (cnt u (fun u => decide (sPr S t < sPr S u) || (sPr S u == sPr S t && decide (u < t))) + 0)) dX9_ranked_72 (nI_add _ _) ?_
                refine J_istore_n dX9_ranked_73 rfl (by decide) rfl ?_
                refine J_iinc (v := nI (u + 1)) dX9_ranked_74 rfl (nI_succ _).symm (by decide) rfl ?_
                refine J_goto (tgt := 17) dX9_ranked_77 (by decide) ?_
                have ec := cnt_f (p := (fun u => decide (sPr S t < sPr S u) || (sPr S u == sPr S t && decide (u < t)))) (n := u) (by simp; omega)
                have g := ihu (u + 1) (by omega) (by omega)
                rw [ec] at g
                exact g
              · skip
                have h58 := (nI_eq (by omega) (by omega)).mp h58
                refine J_iload dX9_ranked_61 rfl ?_
                refine J_iload_n dX9_ranked_63 rfl rfl ?_
                refine J_icmp_ge (tgt := 71) dX9_ranked_64 (by decide) (fun h64 => ?_) (fun h64 => ?_)
                · skip
                  have h64 := (nI_leI (by omega) (by omega)).mp h64
                  refine J_iconst (v := nI 0) dX9_ranked_71 (by decide) ?_
                  refine K_iadd (v := nI (cnt u (fun u => decide (sPr S t < sPr S u) || (sPr S u == sPr S t && decide (u < t))) + 0)) dX9_ranked_72 (nI_add _ _) ?_
                  refine J_istore_n dX9_ranked_73 rfl (by decide) rfl ?_
                  refine J_iinc (v := nI (u + 1)) dX9_ranked_74 rfl (nI_succ _).symm (by decide) rfl ?_
                  refine J_goto (tgt := 17) dX9_ranked_77 (by decide) ?_
                  have ec := cnt_f (p := (fun u => decide (sPr S t < sPr S u) || (sPr S u == sPr S t && decide (u < t)))) (n := u) (by simp; omega)
                  have g := ihu (u + 1) (by omega) (by omega)
                  rw [ec] at g
                  exact g
                · skip
                  have h64 := mt (nI_leI (by omega) (by omega)).mpr h64
                  refine J_iconst (v := nI 1) dX9_ranked_67 (by decide) ?_
                  refine J_goto (tgt := 72) dX9_ranked_68 (by decide) ?_
                  refine K_iadd (v := nI (cnt u (fun u => decide (sPr S t < sPr S u) || (sPr S u == sPr S t && decide (u < t))) + 1)) dX9_ranked_72 (nI_add _ _) ?_
                  refine J_istore_n dX9_ranked_73 rfl (by decide) rfl ?_
                  refine J_iinc (v := nI (u + 1)) dX9_ranked_74 rfl (nI_succ _).symm (by decide) rfl ?_
                  refine J_goto (tgt := 17) dX9_ranked_77 (by decide) ?_
                  have ec := cnt_t (p := (fun u => decide (sPr S t < sPr S u) || (sPr S u == sPr S t && decide (u < t)))) (n := u) (by simp; omega)
                  have g := ihu (u + 1) (by omega) (by omega)
                  rw [ec] at g
                  exact g
      refine J_iload_n dX9_ranked_2 rfl rfl ?_
      refine J_aload_n dX9_ranked_3 rfl rfl ?_
      refine J_getfield dX9_ranked_4 fX9_7 mO rfl ?_
      refine J_iconst (v := nI 1) dX9_ranked_7 (by decide) ?_
      refine K_iald (v := nI (sNt S)) dX9_ranked_8 mS (by omega) (by decide) hfit.1.2.1 ?_
      refine J_icmp_ge (tgt := 93) dX9_ranked_9 (by decide) (fun h9 => ?_) (fun h9 => ?_)
      · skip
        have h9 := (nI_leI (by omega) (by omega)).mp h9
        have et : t = sNt S := by omega
        refine J_iconst (v := (-1)) dX9_ranked_93 (by decide) ?_
        exact J_ireturn dX9_ranked_94 rfl rfl ⟨by rw [show rkX S r = none from fnd_none (fun j hj => hno j (by omega))]; rfl, rfl⟩
      · skip
        have h9 := mt (nI_leI (by omega) (by omega)).mpr h9
        refine J_iconst (v := nI 0) dX9_ranked_12 (by decide) ?_
        refine J_istore_n dX9_ranked_13 rfl (by decide) rfl ?_
        refine J_iconst (v := nI 0) dX9_ranked_14 (by decide) ?_
        refine J_istore dX9_ranked_15 (by decide) rfl ?_
        exact inner (by omega) (sNt S + 1) 0 (by omega) (by omega)
  refine J_iconst (v := nI 0) dX9_ranked_0 (by decide) ?_
  refine J_istore_n dX9_ranked_1 rfl (by decide) rfl ?_
  exact loop (sNt S + 1) 0 none none (by omega) (by omega) (fun j hj => by omega)

end JMREAD

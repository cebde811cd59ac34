/-! THE MODEL: its ticks -/
section JMTICK
theorem acts_go {S : St} (h : WF S) {r t u : Nat} (ht : t < sNt S) (hu : rkX (acts S r) (nI r) = some u) (hr : r < 2 ^ 31) : acts S (r + 1) = act (acts S r) u := by
  rw [acts_s h hr, hu]
  rfl
theorem c_X9_oneTick {w : Wd} {m : Nat} {x : Nat → Int32} {S : St} (hA : MA w m x S) : MC 6 mX9_oneTick 0 0 [.ref m] w (RP (fun v w' => FA w w' m ∧ MA w' m x (tick S) ∧ ∃ (y : Int32) (p : Nat → Bool), v = some (.int y) ∧ bits y p ∧ ∀ t, t < sNt S → (sGo S t).isSome = true → p t = (sGo (tick S) t).isNone)) := by
  have hW := hA.wf
  refine MC_j pnX9 rfl rfl rfl (Or.inr (fun E w h => RP_no E w h)) ?_
  show J 6 mX9_oneTick 0 [some (.ref m), none, none, none] [] w 0 0 _
  have loop : ∀ n r y p w1 o3 S1, sNt S < n + r → r ≤ sNt S → bits y p → (∀ t, t < sNt S → (sGo S t).isSome = true → p t = (sGo (acts S r) t).isNone) → S1 = acts S r → MA w1 m x S1 → FA w w1 m → J 6 mX9_oneTick 4 [some (.ref m), some (.int y), some (.int (nI r)), o3] [] w1 0 0 (RP (fun v w' => FA w w' m ∧ MA w' m x (tick S) ∧ ∃ (y : Int32) (p : Nat → Bool), v = some (.int y) ∧ bits y p ∧ ∀ t, t < sNt S → (sGo S t).isSome = true → p t = (sGo (tick S) t).isNone)) := by
    intro n
    induction n with
    | zero => intros; omega
    | succ n ih =>
      intro r y p w1 o3 S1 q1 q2 hy hp hS1 hA1 hFr
      obtain ⟨f, g, h, mO, mS, mF, mK, hfit⟩ := id hA1
      have hwf := hfit.2.2.2.2
      have hnb := hwf.nb
      have hnt := hwf.nt
      have hn1 : sNt S1 = sNt S := by rw [hS1]; exact (acts_nn S r).2.1
      refine J_iload_n dX9_oneTick_4 rfl rfl ?_
      refine J_aload_n dX9_oneTick_5 rfl rfl ?_
      refine J_getfield dX9_oneTick_6 fX9_7 mO rfl ?_
      refine J_iconst (v := nI 1) dX9_oneTick_9 (by decide) ?_
      refine K_iald (v := nI (sNt S1)) dX9_oneTick_10 mS (by omega) (by decide) hfit.1.2.1 ?_
      refine J_icmp_ge (tgt := 40) dX9_oneTick_11 (by decide) (fun h11 => ?_) (fun h11 => ?_)
      · skip
        have h11 := (nI_leI (by omega) (by omega)).mp h11
        have er : r = sNt S := by omega
        refine J_aload_n dX9_oneTick_40 rfl rfl ?_
        refine J_getfield dX9_oneTick_41 fX9_7 mO rfl ?_
        refine J_iconst (v := nI 2) dX9_oneTick_44 (by decide) ?_
        refine J_dup2 dX9_oneTick_45 rfl rfl ?_
        refine K_iald (v := sTk S1) dX9_oneTick_46 mS (by omega) (by decide) hfit.1.2.2.1 ?_
        refine J_iconst (v := nI 1) dX9_oneTick_47 (by decide) ?_
        refine K_iadd (v := sTk S1 + 1) dX9_oneTick_48 rfl ?_
        refine K_iast dX9_oneTick_49 mS (by omega) (by decide) (fun w1 u1 => ?_)
        have mF := (u1.2.1 _ (by omega)).trans mF
        have mK := (u1.2.1 _ (by omega)).trans mK
        have mO := (u1.2.1 _ (by omega)).trans mO
        have mS := u1.1
        have hfit2 := fit_tk hfit (y := sTk S1 + 1) rfl
        have et : tick S = sTick S1 := by unfold tick; rw [hS1, er]
        have hA2 : MA w1 m x (tick S) := by rw [et]; exact MA_up1 hA1 u1 hfit2
        refine J_iload_n dX9_oneTick_50 rfl rfl ?_
        exact J_ireturn dX9_oneTick_51 rfl rfl (RP_i ⟨hFr.up u1 (by omega) (by omega), hA2, y, p, rfl, hy, fun t ht hg => by rw [hp t ht hg, er]; rfl⟩)
      · skip
        have h11 := mt (nI_leI (by omega) (by omega)).mpr h11
        obtain ⟨u, hu, hrk⟩ := rkX_ex hwf (show r < sNt S1 by omega)
        refine J_aload_n dX9_oneTick_14 rfl rfl ?_
        refine J_iload_n dX9_oneTick_15 rfl rfl ?_
        refine K_callV dX9_oneTick_16 YX9_ranked kX9_118 (rc_of mO rfl) (c_X9_ranked mO mS hfit _) rfl rfl (Nat.le_of_ble_eq_true rfl) (by decide) ?_
        rw [hrk, oI_s]
        refine J_istore_n dX9_oneTick_19 rfl (by decide) rfl ?_
        refine J_aload_n dX9_oneTick_20 rfl rfl ?_
        refine J_iload_n dX9_oneTick_21 rfl rfl ?_
        refine K_callVp dX9_oneTick_22 YX9_acts kX9_121 (rc_of mO rfl) (c_X9_acts hA1 hu) rfl rfl (Nat.le_of_ble_eq_true rfl) (by decide) (fun v22 w22 q22 => ?_)
        obtain ⟨rfl, hF22, hA22⟩ := q22
        have hS2 : acts S (r + 1) = act S1 u := by rw [acts_go hW (show u < sNt S by rw [← hn1]; exact hu) (by rw [← hS1]; exact hrk) (by omega), ← hS1]
        refine J_if_eq (tgt := 34) dX9_oneTick_25 (by decide) (fun h25 => ?_) (fun h25 => ?_)
        · skip
          have e25 : arv S1 u = false := b2i_eq.mp h25
          refine J_iinc (v := nI (r + 1)) dX9_oneTick_34 rfl (nI_succ _).symm (by decide) rfl ?_
          refine J_goto (tgt := 4) dX9_oneTick_37 (by decide) ?_
          exact ih (r + 1) _ p _ _ _ (by omega) (by omega) hy (fun t ht hg => by
            rw [hS2, hp t ht hg, ← hS1]
            by_cases e : t = u
            · subst e
              have e25 : arv S1 t = false := e25
              cases q : sGo S1 t with
              | none => rw [act_go_no q]
              | some y9 =>
                unfold arv at e25
                rw [q] at e25
                cases q2 : sGo (act S1 t) t with
                | none => rw [q2] at e25; cases e25
                | some _ => rfl
            · rw [act_go_ne e]) hS2.symm hA22 (hFr.trA hF22)
        · skip
          have e25 : arv S1 u = true := b2i_ne.mp h25
          refine J_iload_n dX9_oneTick_28 rfl rfl ?_
          refine J_iconst (v := nI 1) dX9_oneTick_29 (by decide) ?_
          refine J_iload_n dX9_oneTick_30 rfl rfl ?_
          refine K_ishl (v := ((1 : Int32) <<< (nI u &&& 31))) dX9_oneTick_31 rfl ?_
          refine K_ior (v := (y ||| ((1 : Int32) <<< (nI u &&& 31)))) dX9_oneTick_32 rfl ?_
          refine J_istore_n dX9_oneTick_33 rfl (by decide) rfl ?_
          refine J_iinc (v := nI (r + 1)) dX9_oneTick_34 rfl (nI_succ _).symm (by decide) rfl ?_
          refine J_goto (tgt := 4) dX9_oneTick_37 (by decide) ?_
          exact ih (r + 1) _ (va_up p u true) _ _ _ (by omega) (by omega) (bits_set hy (by omega)) (fun t ht hg => by
            rw [hS2]
            by_cases e : t = u
            · subst e
              rw [up_s]
              have e25 : arv S1 t = true := e25
              unfold arv at e25
              simp only [Bool.and_eq_true] at e25
              exact e25.2.symm
            · rw [up_n _ _ e, act_go_ne e, hp t ht hg, hS1]) hS2.symm hA22 (hFr.trA hF22)
  refine J_iconst (v := nI 0) dX9_oneTick_0 (by decide) ?_
  refine J_istore_n dX9_oneTick_1 rfl (by decide) rfl ?_
  refine J_iconst (v := nI 0) dX9_oneTick_2 (by decide) ?_
  refine J_istore_n dX9_oneTick_3 rfl (by decide) rfl ?_
  exact loop (sNt S + 1) 0 0 (fun _ => false) w none S (by omega) (by omega) bits_0 (fun t ht hg => by
    show false = (sGo S t).isNone
    cases q : sGo S t with
    | none => rw [q] at hg; cases hg
    | some _ => rfl) rfl hA (FA.rf _ _)

end JMTICK

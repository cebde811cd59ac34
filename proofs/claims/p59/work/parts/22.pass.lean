/-! TRAFFIC: ticks that pass -/
section JPASS
theorem MC_imp {d : Nat} {mi : MI} {kb sb : Nat} {av : List Value} {w : Wd} {Q Q' : Po} (h : MC d mi kb sb av w Q) (e : ∀ r w', Q r w' ↔ Q' r w') : MC d mi kb sb av w Q' := (funext fun r => funext fun w' => propext (e r w') : Q = Q') ▸ h
theorem c_X7_considerO {w : Wd} {u a : Nat} {S : St} (hT : RepT w u) (hL : RepC w a S) (hd : u + 7 ≤ a ∨ a + 9 ≤ u) (o : Option Nat) (ho : ∀ t, o = some t → t < sNt S) : MC 5 mX7_consider 0 0 [.ref u, .ref a, .int (oI o)] w (RP (fun v w' => (o = none → w' = w) ∧ v = none ∧ RepC w' a (actO S o) ∧ RepT w' u ∧ F2 w w' a u)) := by
  cases o with
  | none =>
    refine MC_imp (c_X7_consider0 (u := u) hL) fun r w' => ⟨fun h => ⟨none, h.1, fun _ => h.2, rfl, h.2 ▸ hL, h.2 ▸ hT, h.2 ▸ F2.rf _ _ _⟩, fun ⟨v, e1, e2, e3, _⟩ => ⟨e3 ▸ e1, e2 rfl⟩⟩
  | some t =>
    refine MC_imp (c_X7_consider hT hL hd (ho t rfl)) fun r w' => ⟨fun ⟨v, e1, e2⟩ => ⟨v, e1, (fun e => by cases e), e2⟩, fun ⟨v, e1, _, e2⟩ => ⟨v, e1, e2⟩⟩
theorem c_X7_letPass {w : Wd} {u a : Nat} {S : St} (hT : RepT w u) (hL : RepC w a S) (hd : u + 7 ≤ a ∨ a + 9 ≤ u) (x : Int32) : MC 6 mX7_letPass 0 0 [.ref u, .ref a, .int x] w (PT w a u (oTick S x)) := by
  have hW := hL.wf
  have hL_ := hL
  obtain ⟨x4, x5, x6, f1, f2, f3, f4, f5, f6, f7, f8, hO, ⟨k1, k2, k3, k4, k5, k6, k7, k8⟩, ⟨bc, ba, bo⟩, hlen, hlk, htr, hwf⟩ := hL_
  have hnb := hwf.nb
  have hnt := hwf.nt
  refine MC_j pnX7 rfl rfl rfl (Or.inr (fun E w h => RP_no E w h)) ?_
  show J 6 mX7_letPass 0 [some (.ref u), some (.ref a), some (.int x), none, none, none] [] w 0 0 _
  have loopk : ∀ c, 1 ≤ c → c ≤ 50 → ∀ n k w1 o5, c < n + k → k ≤ c → RepC w1 a (ticksN k S) → RepT w1 u → F2 w w1 a u → J 6 mX7_letPass 22 [some (.ref u), some (.ref a), some (.int (nI c)), some (.int (sAr S)), some (.int (nI k)), o5] [] w1 0 0 (PT w a u (oTick S (nI c))) := by
    intro c hc1 hc2 n
    induction n with
    | zero => intros; omega
    | succ n ihk =>
      intro k w1 o5 q1 q2 hL1 hT1 hF1
      have next : k < c → ∀ S1 w1, S1 = acts (ticksN k S) (sNt S) → RepC w1 a S1 → RepT w1 u → F2 w w1 a u → J 6 mX7_letPass 57 [some (.ref u), some (.ref a), some (.int (nI c)), some (.int (sAr S)), some (.int (nI k)), some (.int (nI (sNt S)))] [] w1 0 0 (PT w a u (oTick S (nI c))) := by
        intro hkc S1 w1 hS1 hL1 hT1 hF1
        obtain ⟨x4, x5, x6, f1, f2, f3, f4, f5, f6, f7, f8, hO, ⟨k1, k2, k3, k4, k5, k6, k7, k8⟩, ⟨bc, ba, bo⟩, hlen, hlk, htr, hwf⟩ := id hL1
        refine J_aload_n dX7_letPass_57 rfl rfl ?_
        refine J_dup dX7_letPass_58 rfl ?_
        refine J_getfield dX7_letPass_59 fX7_68 hO rfl ?_
        refine J_iconst (v := nI 1) dX7_letPass_62 (by decide) ?_
        refine K_iadd (v := sTk S1 + 1) dX7_letPass_63 rfl ?_
        refine K_putI dX7_letPass_64 fX7_68 (Or.inl rfl) hO (Nat.le_of_ble_eq_true rfl) (fun w2 u2 => ?_)
        have hO := u2.1
        have k1 := (u2.2.1 _ (by omega)).trans k1
        have k2 := (u2.2.1 _ (by omega)).trans k2
        have k3 := (u2.2.1 _ (by omega)).trans k3
        have k4 := (u2.2.1 _ (by omega)).trans k4
        have k5 := (u2.2.1 _ (by omega)).trans k5
        have k6 := (u2.2.1 _ (by omega)).trans k6
        have k7 := (u2.2.1 _ (by omega)).trans k7
        have k8 := (u2.2.1 _ (by omega)).trans k8
        have hO : w2.1 a = .inr (4, [.int (nI (sNb S1)), .int (nI (sNt S1)), .int ((sTk S1 + 1)), .int (sAr S1), .int x4, .int x5, .int x6, .ref (a + 1), .ref (a + 2), .ref (a + 3), .ref (a + 4), .ref (a + 5), .ref (a + 6), .ref (a + 7), .ref (a + 8)]) := hO
        refine J_iinc (v := nI (k + 1)) dX7_letPass_67 rfl (nI_succ _).symm (by decide) rfl ?_
        refine J_goto (tgt := 22) dX7_letPass_70 (by decide) ?_
        exact ihk (k + 1) _ (some (.int (nI (sNt S)))) (by omega) (by omega) (show RepC w2 a (tick (ticksN k S)) from by
          have et : tick (ticksN k S) = sTick S1 := by rw [hS1]; unfold tick; rw [(ticks_nn S k).2]
          rw [et]
          exact ⟨_, _, _, _, _, _, _, _, _, _, _, hO, ⟨k1, k2, k3, k4, k5, k6, k7, k8⟩, ⟨bc, ba, bo⟩, hlen, hlk, htr, hwf⟩) (hT1.fr ((Fr.rf _ a (a + 9)).up u2 (by omega) (by omega)) (by omega)) (hF1.up u2 (by omega))
      have loopr : k < c → ∀ n r S1 w1, sNt S < n + r → r ≤ sNt S → S1 = acts (ticksN k S) r → RepC w1 a S1 → RepT w1 u → F2 w w1 a u → J 6 mX7_letPass 31 [some (.ref u), some (.ref a), some (.int (nI c)), some (.int (sAr S)), some (.int (nI k)), some (.int (nI r))] [] w1 0 0 (PT w a u (oTick S (nI c))) := by
        intro hkc n
        induction n with
        | zero => intros; omega
        | succ n ihr =>
          intro r S1 w1 q3 q4 hS1 hL1 hT1 hF1
          obtain ⟨x4, x5, x6, f1, f2, f3, f4, f5, f6, f7, f8, hO, ⟨k1, k2, k3, k4, k5, k6, k7, k8⟩, ⟨bc, ba, bo⟩, hlen, hlk, htr, hwf⟩ := id hL1
          have hn1 : sNt S1 = sNt S := by rw [hS1, (acts_nn _ _).2.1, (ticks_nn S k).2]
          have hnt := hW.nt
          have tO : w1.1 u = .inr (7, [.ref (u + 1), .ref (u + 5), .ref (u + 6)]) := by obtain ⟨h1, h2, tO, -⟩ := hT1; exact tO
          refine J_iload dX7_letPass_31 rfl ?_
          refine J_aload_n dX7_letPass_33 rfl rfl ?_
          refine J_getfield dX7_letPass_34 fX7_58 hO rfl ?_
          refine J_icmp_ge (tgt := 57) dX7_letPass_37 (by decide) (fun h37 => ?_) (fun h37 => ?_)
          · skip
            have h37 := (nI_leI (by omega) (by omega)).mp h37
            have ek : r = sNt S := by omega
            have hS2 : S1 = acts (ticksN k S) (sNt S) := by rw [hS1, ek]
            rw [ek]
            exact next hkc _ _ hS2 hL1 hT1 hF1
          · skip
            have h37 := mt (nI_leI (by omega) (by omega)).mpr h37
            
            refine J_aload_n dX7_letPass_40 rfl rfl ?_
            refine J_aload_n dX7_letPass_41 rfl rfl ?_
            refine J_aload_n dX7_letPass_42 rfl rfl ?_
            refine J_iload dX7_letPass_43 rfl ?_
            refine K_callV dX7_letPass_45 YX4_trainAtRank kX7_61 (rc_of hO rfl) (c_X4_trainAtRank hL1 _) rfl rfl (Nat.le_of_ble_eq_true rfl) (by decide) ?_
            refine K_callVp dX7_letPass_48 YX7_consider kX7_65 (rc_of tO rfl) (c_X7_considerO hT1 hL1 hd (rkX S1 (nI r)) (fun t e => (fnd_is e).1)) rfl rfl (Nat.le_of_ble_eq_true rfl) (by decide) (fun v48 w48 q48 => ?_)
            obtain ⟨-, rfl, hL48, hT48, hF48⟩ := q48
            refine J_iinc (v := nI (r + 1)) dX7_letPass_51 rfl (nI_succ _).symm (by decide) rfl ?_
            refine J_goto (tgt := 31) dX7_letPass_54 (by decide) ?_
            exact ihr (r + 1) _ _ (by omega) (by omega) (by rw [acts_s (wf_ticks hW k) (by omega), ← hS1]) hL48 hT48 (hF1.tr hF48)
      obtain ⟨x4, x5, x6, f1, f2, f3, f4, f5, f6, f7, f8, hO, ⟨k1, k2, k3, k4, k5, k6, k7, k8⟩, ⟨bc, ba, bo⟩, hlen, hlk, htr, hwf⟩ := id hL1
      refine J_iload dX7_letPass_22 rfl ?_
      refine J_iload_n dX7_letPass_24 rfl rfl ?_
      refine J_icmp_ge (tgt := 73) dX7_letPass_25 (by decide) (fun h25 => ?_) (fun h25 => ?_)
      · skip
        have h25 := (nI_leI (by omega) (by omega)).mp h25
        have ek : k = c := by omega
        refine J_aload_n dX7_letPass_73 rfl rfl ?_
        refine J_getfield dX7_letPass_74 fX7_55 hO rfl ?_
        refine J_iload_n dX7_letPass_77 rfl rfl ?_
        refine K_isub (v := sAr (ticksN c S) - sAr S) dX7_letPass_78 (by rw [ek]) ?_
        exact J_ireturn dX7_letPass_79 rfl rfl (RP_i ⟨by rw [oTick_is hc1 hc2]; rfl, by rw [oTick_is hc1 hc2, ← ek]; exact hL1, hT1, hF1⟩)
      · skip
        have h25 := mt (nI_leI (by omega) (by omega)).mpr h25
        refine J_iconst (v := nI 0) dX7_letPass_28 (by decide) ?_
        refine J_istore dX7_letPass_29 (by decide) rfl ?_
        exact loopr (by omega) (sNt S + 1) 0 _ w1 (by omega) (by omega) rfl hL1 hT1 hF1
  refine J_iload_n dX7_letPass_0 rfl rfl ?_
  refine J_iconst (v := nI 1) dX7_letPass_1 (by decide) ?_
  refine J_icmp_lt (tgt := 11) dX7_letPass_2 (by decide) (fun h2 => ?_) (fun h2 => ?_)
  · skip
    have ev := oTick_no (S := S) (Or.inl h2)
    refine J_bipush (v := (-12)) dX7_letPass_11 (by decide) ?_
    exact J_ireturn dX7_letPass_13 rfl rfl (PT_no (c := 1) hL hT ev rfl hL hT (F2.rf _ _ _))
  · skip
    refine J_iload_n dX7_letPass_5 rfl rfl ?_
    refine J_bipush (v := nI 50) dX7_letPass_6 (by decide) ?_
    refine J_icmp_le (tgt := 14) dX7_letPass_8 (by decide) (fun h8 => ?_) (fun h8 => ?_)
    · skip
      obtain ⟨c, hc1, hc2, hxc⟩ := v50_is h2 (Int32.not_lt.mpr h8)
      refine J_aload_n dX7_letPass_14 rfl rfl ?_
      refine J_getfield dX7_letPass_15 fX7_55 hO rfl ?_
      refine J_istore_n dX7_letPass_18 rfl (by decide) rfl ?_
      refine J_iconst (v := nI 0) dX7_letPass_19 (by decide) ?_
      refine J_istore dX7_letPass_20 (by decide) rfl ?_
      subst hxc
      exact loopk c hc1 hc2 (c + 1) 0 w none (by omega) (by omega) hL hT (F2.rf _ _ _)
    · skip
      have ev := oTick_no (S := S) (Or.inr (Int32.not_le.mp h8))
      refine J_bipush (v := (-12)) dX7_letPass_11 (by decide) ?_
      exact J_ireturn dX7_letPass_13 rfl rfl (PT_no (c := 1) hL hT ev rfl hL hT (F2.rf _ _ _))

theorem c_X7_ticksToGoal {w : Wd} {u a t : Nat} {S : St} (hT : RepT w u) (hL : RepC w a S) (hd : u + 7 ≤ a ∨ a + 9 ≤ u) (ht : t < sNt S) : MC 7 mX7_ticksToGoal 0 0 [.ref u, .ref a, .int (nI t)] w (RP (fun v w' => v = some (.int (oI (tta S t))) ∧ (∃ S', RepC w' a S') ∧ RepT w' u ∧ F2 w w' a u)) := by
  have hW := hL.wf
  refine MC_j pnX7 rfl rfl rfl (Or.inr (fun E w h => RP_no E w h)) ?_
  show J 7 mX7_ticksToGoal 0 [some (.ref u), some (.ref a), some (.int (nI t)), none] [] w 0 0 _
  have loop : ∀ n k w1, 99 < n + k → k ≤ 99 → RepC w1 a (ticksN k S) → RepT w1 u → F2 w w1 a u → (∀ j, j < k → (sGo (ticksN (j + 1) S) t).isNone = false) → J 7 mX7_ticksToGoal 2 [some (.ref u), some (.ref a), some (.int (nI t)), some (.int (nI (k + 1)))] [] w1 0 0 (RP (fun v w' => v = some (.int (oI (tta S t))) ∧ (∃ S', RepC w' a S') ∧ RepT w' u ∧ F2 w w' a u)) := by
    intro n
    induction n with
    | zero => intros; omega
    | succ n ih =>
      intro k w1 q1 q2 hL1 hT1 hF1 hno
      have body : ∀ w1, RepC w1 a (ticksN (k + 1) S) → RepT w1 u → F2 w w1 a u → k < 99 → J 7 mX7_ticksToGoal 15 [some (.ref u), some (.ref a), some (.int (nI t)), some (.int (nI (k + 1)))] [] w1 0 0 (RP (fun v w' => v = some (.int (oI (tta S t))) ∧ (∃ S', RepC w' a S') ∧ RepT w' u ∧ F2 w w' a u)) := by
        intro w1 hL1 hT1 hF1 hk
        obtain ⟨x4, x5, x6, f1, f2, f3, f4, f5, f6, f7, f8, hO, ⟨k1, k2, k3, k4, k5, k6, k7, k8⟩, ⟨bc, ba, bo⟩, hlen, hlk, htr, hwf⟩ := id hL1
        have hn1 : sNt (ticksN (k + 1) S) = sNt S := (ticks_nn S (k + 1)).2
        have hnt := hwf.nt
        refine J_aload_n dX7_ticksToGoal_15 rfl rfl ?_
        refine J_getfield dX7_ticksToGoal_16 fX7_52 hO rfl ?_
        refine J_iload_n dX7_ticksToGoal_19 rfl rfl ?_
        refine K_iald (v := oI (sGo (ticksN (k + 1) S) t)) dX7_ticksToGoal_20 k6 (by omega) (by decide) (htr _ (by omega)).2.2.2.1 ?_
        refine J_iconst (v := (-1)) dX7_ticksToGoal_21 (by decide) ?_
        refine J_icmp_ne (tgt := 27) dX7_ticksToGoal_22 (by decide) (fun h22 => ?_) (fun h22 => ?_)
        · skip
          obtain ⟨k22, e22⟩ : ∃ k_, sGo (ticksN (k + 1) S) t = some k_ := by
            cases q : sGo (ticksN (k + 1) S) t with
            | none => exact absurd ((oI_m1 (sGo_b hwf (by omega))).mpr q) h22
            | some k_ => exact ⟨k_, rfl⟩
          refine J_iinc (v := nI (k + 1 + 1)) dX7_ticksToGoal_27 rfl (nI_succ _).symm (by decide) rfl ?_
          refine J_goto (tgt := 2) dX7_ticksToGoal_30 (by decide) ?_
          exact ih (k + 1) w1 (by omega) (by omega) hL1 hT1 hF1 (fun j hj => by
            by_cases q : j = k
            · subst q; rw [e22]; rfl
            · exact hno j (by omega))
        · skip
          have e22 : sGo (ticksN (k + 1) S) t = none := (oI_m1 (sGo_b hwf (by omega))).mp h22
          refine J_iload_n dX7_ticksToGoal_25 rfl rfl ?_
          exact J_ireturn dX7_ticksToGoal_26 rfl rfl (RP_i ⟨by rw [show tta S t = some (k + 1) from by unfold tta; rw [fnd_some (k := k) (by omega) (by rw [e22]; rfl) hno]; rfl]; rfl, ⟨_, hL1⟩, hT1, hF1⟩)
      obtain ⟨x4, x5, x6, f1, f2, f3, f4, f5, f6, f7, f8, hO, ⟨k1, k2, k3, k4, k5, k6, k7, k8⟩, ⟨bc, ba, bo⟩, hlen, hlk, htr, hwf⟩ := id hL1
      have tO : w1.1 u = .inr (7, [.ref (u + 1), .ref (u + 5), .ref (u + 6)]) := by obtain ⟨h1, h2, tO, -⟩ := hT1; exact tO
      refine J_iload_n dX7_ticksToGoal_2 rfl rfl ?_
      refine J_bipush (v := nI 99) dX7_ticksToGoal_3 (by decide) ?_
      refine J_icmp_gt (tgt := 33) dX7_ticksToGoal_5 (by decide) (fun h5 => ?_) (fun h5 => ?_)
      · skip
        have h5 := (nI_ltI (by omega) (by omega)).mp h5
        have ek : k = 99 := by omega
        refine J_iconst (v := (-1)) dX7_ticksToGoal_33 (by decide) ?_
        exact J_ireturn dX7_ticksToGoal_34 rfl rfl (RP_i ⟨by rw [show tta S t = none from by unfold tta; rw [fnd_none (fun j hj => hno j (by omega))]; rfl]; rfl, ⟨_, hL1⟩, hT1, hF1⟩)
      · skip
        have h5 := mt (nI_ltI (by omega) (by omega)).mpr h5
        refine J_aload_n dX7_ticksToGoal_8 rfl rfl ?_
        refine J_aload_n dX7_ticksToGoal_9 rfl rfl ?_
        refine J_iconst (v := nI 1) dX7_ticksToGoal_10 (by decide) ?_
        refine K_callVp dX7_ticksToGoal_11 YX7_letPass kX7_91 (rc_of tO rfl) (c_X7_letPass hT1 hL1 hd (nI 1)) rfl rfl (Nat.le_of_ble_eq_true rfl) (by decide) (fun v11 w11 q11 => ?_)
        obtain ⟨rfl, hL11, hT11, hF11⟩ := q11
        refine J_pop dX7_ticksToGoal_14 rfl ?_
        rw [oTick_is (by omega) (by omega)] at hL11
        exact body _ hL11 hT11 (hF1.tr hF11) (by omega)
  refine J_iconst (v := nI 1) dX7_ticksToGoal_0 (by decide) ?_
  refine J_istore_n dX7_ticksToGoal_1 rfl (by decide) rfl ?_
  exact loop 100 0 w (by omega) (by omega) hL hT (F2.rf _ _ _) (fun j hj => by omega)

end JPASS

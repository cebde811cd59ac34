/-! THE MODEL: what changes its railway -/
section JMCHANGE
theorem c_X9_starts {w : Wd} {m : Nat} {x : Nat → Int32} {S : St} (hA : MA w m x S) (y z : Int32) : MC 4 mX9_starts 0 0 [.ref m, .int y, .int z] w (MCh w m x [1, 2, 3, 4] (oTrain S y z)) := by
  obtain ⟨f, g, h, mO, mS, mF, mK, hfit⟩ := id hA
  have hwf := hfit.2.2.2.2
  have hnb := hwf.nb
  have hnt := hwf.nt
  refine MC_j pnX9 rfl rfl rfl (Or.inr (fun E w h => RP_no E w h)) ?_
  show J 4 mX9_starts 0 [some (.ref m), some (.int y), some (.int z), none, none] [] w 0 0 _
  have loop : ∀ i k, i < sNb S → vi (sNb S) (nI i) = some i → v19 (nI k) = some k → 1 ≤ k → k ≤ 9 → ¬ sNt S = 6 → tAt S i = none → sCa S i = false → hOf S i = none → ∀ n j f1 w1, 7 < n + j → j ≤ 7 → (∀ q, (q < 74 + 7 * sNt S ∨ 74 + 7 * sNt S + 6 < q) → f1 q = f q) → (∀ q, q < j → f1 (74 + 7 * sNt S + q) = nI 0) → w1.1 m = mCell m x → w1.1 (m + 1) = .inl (0, 116, .inl f1) → w1.1 (m + 9) = .inl (0, 14, .inl g) → w1.1 (m + 10) = .inl (0, 14, .inl h) → FA w w1 m → J 4 mX9_starts 70 [some (.ref m), some (.int (nI i)), some (.int (nI k)), some (.int (nI (sNt S))), some (.int (nI j))] [] w1 0 0 (MCh w m x [1, 2, 3, 4] (oTrain S (nI i) (nI k))) := by
    intro i k hi e5 ev hk1 hk2 h32 e43 e53 e62 n
    induction n with
    | zero => intros; omega
    | succ n ih =>
      intro j f1 w1 q1 q2 hU h0 mO mS mF mK hFr
      refine J_iload dX9_starts_70 rfl ?_
      refine J_bipush (v := nI 7) dX9_starts_72 (by decide) ?_
      refine J_icmp_ge (tgt := 91) dX9_starts_74 (by decide) (fun h74 => ?_) (fun h74 => ?_)
      · skip
        have h74 := (nI_leI (by omega) (by omega)).mp h74
        have ej : j = 7 := by omega
        have h0 := fun q (hq : q < 7) => h0 q (by omega)
        refine J_aload_n dX9_starts_91 rfl rfl ?_
        refine J_iload_n dX9_starts_92 rfl rfl ?_
        refine J_iconst (v := nI 0) dX9_starts_93 (by decide) ?_
        refine J_iload_n dX9_starts_94 rfl rfl ?_
        refine K_callVp dX9_starts_95 YX9_sets kX9_105 (rc_of mO rfl) (c_X9_sets mO mS (t := sNt S) (k := 0) (by omega) _) rfl rfl (Nat.le_of_ble_eq_true rfl) (by decide) (fun v95 w95 q95 => ?_)
        obtain ⟨rfl, u95⟩ := q95
        have mO := (u95.2.1 _ (by omega)).trans mO
        have mS := u95.1
        have mF := (u95.2.1 _ (by omega)).trans mF
        have mK := (u95.2.1 _ (by omega)).trans mK
        have hFr := hFr.up u95 (by omega) (by omega)
        refine J_aload_n dX9_starts_98 rfl rfl ?_
        refine J_iload_n dX9_starts_99 rfl rfl ?_
        refine J_iconst (v := nI 1) dX9_starts_100 (by decide) ?_
        refine J_iload_n dX9_starts_101 rfl rfl ?_
        refine K_callVp dX9_starts_102 YX9_sets kX9_105 (rc_of mO rfl) (c_X9_sets mO mS (t := sNt S) (k := 1) (by omega) _) rfl rfl (Nat.le_of_ble_eq_true rfl) (by decide) (fun v102 w102 q102 => ?_)
        obtain ⟨rfl, u102⟩ := q102
        have mO := (u102.2.1 _ (by omega)).trans mO
        have mS := u102.1
        have mF := (u102.2.1 _ (by omega)).trans mF
        have mK := (u102.2.1 _ (by omega)).trans mK
        have hFr := hFr.up u102 (by omega) (by omega)
        refine J_aload_n dX9_starts_105 rfl rfl ?_
        refine J_getfield dX9_starts_106 fX9_7 mO rfl ?_
        refine J_iconst (v := nI 1) dX9_starts_109 (by decide) ?_
        refine J_iload_n dX9_starts_110 rfl rfl ?_
        refine J_iconst (v := nI 1) dX9_starts_111 (by decide) ?_
        refine K_iadd (v := nI (sNt S + 1)) dX9_starts_112 (nI_add _ _) ?_
        refine K_iast dX9_starts_113 mS (by omega) (by decide) (fun w1 u1 => ?_)
        have mF := (u1.2.1 _ (by omega)).trans mF
        have mK := (u1.2.1 _ (by omega)).trans mK
        have mO := (u1.2.1 _ (by omega)).trans mO
        have mS := u1.1
        have hfit2 := fit_train (f' := va_up (va_up (va_up f1 (74 + 7 * sNt S + 0) (nI i)) (74 + 7 * sNt S + 1) (nI k)) 1 (nI (sNt S + 1))) hfit hi hk1 hk2 (by omega) e43 (fun i z1 z2 => by rw [up_n _ _ z1, up_n _ _ (by omega), up_n _ _ (by omega)]; exact hU i z2) (up_s _ _ _) ((up_n _ _ (by omega)).trans ((up_n _ _ (by omega)).trans (up_s _ _ _))) ((up_n _ _ (by omega)).trans (up_s _ _ _)) (fun q q1 q2 => by rw [up_n _ _ (by omega), up_n _ _ (by omega), up_n _ _ (by omega)]; exact h0 q q2)
        have hFr := hFr.up u1 (by omega) (by omega)
        refine J_aload_n dX9_starts_114 rfl rfl ?_
        refine J_iload_n dX9_starts_115 rfl rfl ?_
        refine K_callVp dX9_starts_116 YX9_done kX9_88 (rc_of mO rfl) (c_X9_done mO _) rfl rfl (Nat.le_of_ble_eq_true rfl) (by decide) (fun v116 w116 q116 => ?_)
        obtain ⟨rfl, u116⟩ := q116
        have mO : w116.1 m = mCell m (va_up x 17 (nI (sNt S))) := u116.1
        have mS := (u116.2.1 _ (by omega)).trans mS
        have mF := (u116.2.1 _ (by omega)).trans mF
        have mK := (u116.2.1 _ (by omega)).trans mK
        exact J_ireturn dX9_starts_119 rfl rfl (MCh_ok (S' := sTrain S i k) (y := nI (sNt S)) (by simp [oTrain, e5, ev, h32, e43, e53, e62]) ⟨_, _, _, mO, mS, mF, mK, hfit2⟩ (hFr.up u116 (by omega) (by omega)))
      · skip
        have h74 := mt (nI_leI (by omega) (by omega)).mpr h74
        refine J_aload_n dX9_starts_77 rfl rfl ?_
        refine J_iload_n dX9_starts_78 rfl rfl ?_
        refine J_iload dX9_starts_79 rfl ?_
        refine J_iconst (v := nI 0) dX9_starts_81 (by decide) ?_
        refine K_callVp dX9_starts_82 YX9_sets kX9_105 (rc_of mO rfl) (c_X9_sets mO mS (t := sNt S) (k := j) (by omega) _) rfl rfl (Nat.le_of_ble_eq_true rfl) (by decide) (fun v82 w82 q82 => ?_)
        obtain ⟨rfl, u82⟩ := q82
        have mO := (u82.2.1 _ (by omega)).trans mO
        have mS := u82.1
        have mF := (u82.2.1 _ (by omega)).trans mF
        have mK := (u82.2.1 _ (by omega)).trans mK
        have hFr := hFr.up u82 (by omega) (by omega)
        refine J_iinc (v := nI (j + 1)) dX9_starts_85 rfl (nI_succ _).symm (by decide) rfl ?_
        refine J_goto (tgt := 70) dX9_starts_88 (by decide) ?_
        exact ih (j + 1) _ _ (by omega) (by omega) (fun q hq => by rw [up_n _ _ (by omega)]; exact hU q hq) (fun q hq => by
          by_cases e : q = j
          · subst e; rw [up_s]
          · rw [up_n _ _ (by omega)]; exact h0 q (by omega)) mO mS mF mK hFr
  refine J_aload_n dX9_starts_0 rfl rfl ?_
  refine J_iload_n dX9_starts_1 rfl rfl ?_
  refine K_callV dX9_starts_2 YX9_isBlock kX9_91 (rc_of mO rfl) (c_X9_isBlock mO mS hfit _) rfl rfl (Nat.le_of_ble_eq_true rfl) (by decide) ?_
  refine J_if_ne (tgt := 10) dX9_starts_5 (by decide) (fun h5 => ?_) (fun h5 => ?_)
  · skip
    have e5 : (vi (sNb S) y).isSome = true := b2i_ne.mp h5
    obtain ⟨i, e5⟩ := isS_yes e5
    obtain ⟨hi, rfl⟩ := vi_some (by omega) e5
    refine J_iload_n dX9_starts_10 rfl rfl ?_
    refine J_iconst (v := nI 1) dX9_starts_11 (by decide) ?_
    refine J_bipush (v := nI 9) dX9_starts_12 (by decide) ?_
    refine K_callS dX9_starts_14 YX9_in kX9_63 (c_X9_in19 z) rfl rfl (Nat.le_of_ble_eq_true rfl) (by decide) ?_
    refine J_if_ne (tgt := 22) dX9_starts_17 (by decide) (fun h17 => ?_) (fun h17 => ?_)
    · skip
      have e17 : (v19 z).isSome = true := b2i_ne.mp h17
      obtain ⟨k, ev, hk1, hk2, rfl⟩ := v19_of e17
      refine J_aload_n dX9_starts_22 rfl rfl ?_
      refine J_getfield dX9_starts_23 fX9_7 mO rfl ?_
      refine J_iconst (v := nI 1) dX9_starts_26 (by decide) ?_
      refine K_iald (v := nI (sNt S)) dX9_starts_27 mS (by omega) (by decide) hfit.1.2.1 ?_
      refine J_istore_n dX9_starts_28 rfl (by decide) rfl ?_
      refine J_iload_n dX9_starts_29 rfl rfl ?_
      refine J_bipush (v := nI 6) dX9_starts_30 (by decide) ?_
      refine J_icmp_ne (tgt := 37) dX9_starts_32 (by decide) (fun h32 => ?_) (fun h32 => ?_)
      · skip
        have h32 := mt (nI_eq (by omega) (by omega)).mpr h32
        refine J_aload_n dX9_starts_37 rfl rfl ?_
        refine J_iload_n dX9_starts_38 rfl rfl ?_
        refine K_callV dX9_starts_39 YX9_inside kX9_99 (rc_of mO rfl) (c_X9_inside mO mS hfit (show i < 2 ^ 31 by omega)) rfl rfl (Nat.le_of_ble_eq_true rfl) (by decide) ?_
        refine J_iconst (v := (-1)) dX9_starts_42 (by decide) ?_
        refine J_icmp_ne (tgt := 65) dX9_starts_43 (by decide) (fun h43 => ?_) (fun h43 => ?_)
        · skip
          obtain ⟨k43, e43⟩ : ∃ k_, tAt S i = some k_ := by
            cases q : tAt S i with
            | none => exact absurd ((oI_m1 (tAt_b hwf)).mpr q) h43
            | some k_ => exact ⟨k_, rfl⟩
          refine J_iconst (v := nI 4) dX9_starts_65 (by decide) ?_
          exact J_ireturn dX9_starts_66 rfl rfl (MCh_no (l := [1, 2, 3, 4]) hA (FA.rf _ _) (c := 3) (by simp [oTrain, e5, ev, h32, e43]) rfl)
        · skip
          have e43 : tAt S i = none := (oI_m1 (tAt_b hwf)).mp h43
          refine J_aload_n dX9_starts_46 rfl rfl ?_
          refine J_iload_n dX9_starts_47 rfl rfl ?_
          refine J_iconst (v := nI 2) dX9_starts_48 (by decide) ?_
          refine K_callV dX9_starts_49 YX9_block kX9_71 (rc_of mO rfl) (c_X9_bCa mO mS hfit (show i < sNb S by omega)) rfl rfl (Nat.le_of_ble_eq_true rfl) (by decide) ?_
          refine J_iconst (v := nI 1) dX9_starts_52 (by decide) ?_
          refine J_icmp_eq (tgt := 65) dX9_starts_53 (by decide) (fun h53 => ?_) (fun h53 => ?_)
          · skip
            have e53 : sCa S i = true := b2i_1.mp h53
            refine J_iconst (v := nI 4) dX9_starts_65 (by decide) ?_
            exact J_ireturn dX9_starts_66 rfl rfl (MCh_no (l := [1, 2, 3, 4]) hA (FA.rf _ _) (c := 3) (by simp [oTrain, e5, ev, h32, e43, e53]; cases hOf S i <;> rfl) rfl)
          · skip
            have e53 : sCa S i = false := b2i_n1 h53
            refine J_aload_n dX9_starts_56 rfl rfl ?_
            refine J_iload_n dX9_starts_57 rfl rfl ?_
            refine K_callV dX9_starts_58 YX9_holder kX9_78 (rc_of mO rfl) (c_X9_holder mO mS hfit (show i < sNb S by omega)) rfl rfl (Nat.le_of_ble_eq_true rfl) (by decide) ?_
            refine J_iconst (v := (-1)) dX9_starts_61 (by decide) ?_
            refine J_icmp_eq (tgt := 67) dX9_starts_62 (by decide) (fun h62 => ?_) (fun h62 => ?_)
            · skip
              have e62 : hOf S i = none := (oI_m1 (hOf_b hwf)).mp h62
              refine J_iconst (v := nI 0) dX9_starts_67 (by decide) ?_
              refine J_istore dX9_starts_68 (by decide) rfl ?_
              exact loop i k hi e5 ev hk1 hk2 h32 e43 e53 e62 8 0 f w (by omega) (by omega) (fun _ _ => rfl) (fun q hq => by omega) mO mS mF mK (FA.rf _ _)
            · skip
              obtain ⟨k62, e62⟩ : ∃ k_, hOf S i = some k_ := by
                cases q : hOf S i with
                | none => exact absurd ((oI_m1 (hOf_b hwf)).mpr q) h62
                | some k_ => exact ⟨k_, rfl⟩
              refine J_iconst (v := nI 4) dX9_starts_65 (by decide) ?_
              exact J_ireturn dX9_starts_66 rfl rfl (MCh_no (l := [1, 2, 3, 4]) hA (FA.rf _ _) (c := 3) (by simp [oTrain, e5, ev, h32, e43, e53, e62]) rfl)
      · skip
        have h32 := (nI_eq (by omega) (by omega)).mp h32
        refine J_iconst (v := nI 3) dX9_starts_35 (by decide) ?_
        exact J_ireturn dX9_starts_36 rfl rfl (MCh_no (l := [1, 2, 3, 4]) hA (FA.rf _ _) (c := 2) (by simp [oTrain, e5, ev, h32]) rfl)
    · skip
      have e17 : (v19 z).isSome = false := b2i_eq.mp h17
      have ev := isS_no e17
      refine J_iconst (v := nI 2) dX9_starts_20 (by decide) ?_
      exact J_ireturn dX9_starts_21 rfl rfl (MCh_no (l := [1, 2, 3, 4]) hA (FA.rf _ _) (c := 1) (by simp [oTrain, e5, ev]) rfl)
  · skip
    have e5 : (vi (sNb S) y).isSome = false := b2i_eq.mp h5
    have e5 := isS_no e5
    refine J_iconst (v := nI 1) dX9_starts_8 (by decide) ?_
    exact J_ireturn dX9_starts_9 rfl rfl (MCh_no (l := [1, 2, 3, 4]) hA (FA.rf _ _) (c := 0) (by simp [oTrain, e5]) rfl)

end JMCHANGE

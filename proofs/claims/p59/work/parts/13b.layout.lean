/-! THE LAYOUT: what is asked of it, more -/
section JLAYOUT2
theorem c_X4_signalOf {w : Wd} {a : Nat} {S : St} (hL : RepC w a S) {b : Nat} (hb : b < 32) : MC 3 mX4_signalOf 0 0 [.ref a, .int (nI b)] w (RI (.int (nI (sgn S b))) w) := by
  have hL_ := hL
  obtain ⟨x4, x5, x6, f1, f2, f3, f4, f5, f6, f7, f8, hO, ⟨k1, k2, k3, k4, k5, k6, k7, k8⟩, ⟨bc, ba, bo⟩, hlen, hlk, htr, hwf⟩ := hL_
  have hnb := hwf.nb
  have hnt := hwf.nt
  refine MC_j pnX4 rfl rfl rfl (Or.inr (fun E w h => by cases h.1)) ?_
  show J 3 mX4_signalOf 0 [some (.ref a), some (.int (nI b))] [] w 0 0 _
  refine J_aload_n dX4_signalOf_0 rfl rfl ?_
  refine J_getfield dX4_signalOf_1 fX4_27 hO rfl ?_
  refine J_iload_n dX4_signalOf_4 rfl rfl ?_
  refine K_callSN dX4_signalOf_5 YX8_has kX4_64 (c_has w ba (by omega)) rfl rfl (Nat.le_of_ble_eq_true rfl) (by decide) ?_
  refine J_if_eq (tgt := 14) dX4_signalOf_8 (by decide) (fun h8 => ?_) (fun h8 => ?_)
  · skip
    have e8 : sCa S b = false := b2i_eq.mp h8
    refine J_aload_n dX4_signalOf_14 rfl rfl ?_
    refine J_iload_n dX4_signalOf_15 rfl rfl ?_
    refine K_callV dX4_signalOf_16 YX4_trainAt kX4_68 (rc_of hO rfl) (c_X4_trainAt hL (by omega)) rfl rfl (Nat.le_of_ble_eq_true rfl) (by decide) ?_
    refine J_iconst (v := (-1)) dX4_signalOf_19 (by decide) ?_
    refine J_icmp_eq (tgt := 26) dX4_signalOf_20 (by decide) (fun h20 => ?_) (fun h20 => ?_)
    · skip
      have e20 : tAt S b = none := (oI_m1 (tAt_b hL.wf)).mp h20
      refine J_aload_n dX4_signalOf_26 rfl rfl ?_
      refine J_iload_n dX4_signalOf_27 rfl rfl ?_
      refine K_callV dX4_signalOf_28 YX4_holderOf kX4_72 (rc_of hO rfl) (c_X4_holderOf hL (by omega)) rfl rfl (Nat.le_of_ble_eq_true rfl) (by decide) ?_
      refine J_iconst (v := (-1)) dX4_signalOf_31 (by decide) ?_
      refine J_icmp_eq (tgt := 40) dX4_signalOf_32 (by decide) (fun h32 => ?_) (fun h32 => ?_)
      · skip
        have e32 : hOf S b = none := (oI_m1 (hOf_b hL.wf)).mp h32
        refine J_bipush (v := nI 102) dX4_signalOf_40 (by decide) ?_
        exact J_ireturn dX4_signalOf_42 rfl rfl ⟨by rw [show sgn S b = 102 from by unfold sgn; simp [e8, e20, e32]], rfl⟩
      · skip
        obtain ⟨k32, e32⟩ : ∃ k_, hOf S b = some k_ := by
          cases q : hOf S b with
          | none => exact absurd ((oI_m1 (hOf_b hL.wf)).mpr q) h32
          | some k_ => exact ⟨k_, rfl⟩
        refine J_bipush (v := nI 114) dX4_signalOf_35 (by decide) ?_
        refine J_goto (tgt := 42) dX4_signalOf_37 (by decide) ?_
        exact J_ireturn dX4_signalOf_42 rfl rfl ⟨by rw [show sgn S b = 114 from by unfold sgn; simp [e8, e20, e32]], rfl⟩
    · skip
      obtain ⟨k20, e20⟩ : ∃ k_, tAt S b = some k_ := by
        cases q : tAt S b with
        | none => exact absurd ((oI_m1 (tAt_b hL.wf)).mpr q) h20
        | some k_ => exact ⟨k_, rfl⟩
      refine J_bipush (v := nI 111) dX4_signalOf_23 (by decide) ?_
      exact J_ireturn dX4_signalOf_25 rfl rfl ⟨by rw [show sgn S b = 111 from by unfold sgn; simp [e8, e20]], rfl⟩
  · skip
    have e8 : sCa S b = true := b2i_ne.mp h8
    refine J_bipush (v := nI 99) dX4_signalOf_11 (by decide) ?_
    exact J_ireturn dX4_signalOf_13 rfl rfl ⟨by rw [show sgn S b = 99 from by unfold sgn; simp [e8]], rfl⟩

theorem c_X4_trainAtRank {w : Wd} {a : Nat} {S : St} (hL : RepC w a S) (x : Int32) : MC 2 mX4_trainAtRank 0 0 [.ref a, .int x] w (RI (.int (oI (rkX S x))) w) := by
  have hL_ := hL
  obtain ⟨x4, x5, x6, f1, f2, f3, f4, f5, f6, f7, f8, hO, ⟨k1, k2, k3, k4, k5, k6, k7, k8⟩, ⟨bc, ba, bo⟩, hlen, hlk, htr, hwf⟩ := hL_
  have hnb := hwf.nb
  have hnt := hwf.nt
  refine MC_j pnX4 rfl rfl rfl (Or.inr (fun E w h => by cases h.1)) ?_
  show J 2 mX4_trainAtRank 0 [some (.ref a), some (.int x), none, none, none] [] w 0 0 _
  have outer : ∀ m p c o, p ≤ m → p ≤ 9 → c = cnt (sNt S) (fun u => decide (p < sPr S u)) → (∀ t, t < sNt S → p < sPr S t → ¬ nI (ahd S t) = x) → J 2 mX4_trainAtRank 5 [some (.ref a), some (.int x), some (.int (nI c)), some (.int (nI p)), o] [] w 0 0 (RI (.int (oI (rkX S x))) w) := by
    intro m
    induction m with
    | zero =>
      intro p c o hm hp9 hc hnp
      refine J_iload_n dX4_trainAtRank_5 rfl rfl ?_
      refine J_iconst (v := nI 1) dX4_trainAtRank_6 (by decide) ?_
      refine J_icmp_lt (tgt := 56) dX4_trainAtRank_7 (by decide) (fun h7 => ?_) (fun h7 => absurd (nI_lt (by omega) (by omega)) h7)
      refine J_iconst (v := (-1)) dX4_trainAtRank_56 (by decide) ?_
      exact J_ireturn dX4_trainAtRank_57 rfl rfl ⟨by rw [rkX_none (fun t ht => hnp t ht (by have := (hwf.2.2.2.2.1 t ht).2.1; omega))]; rfl, rfl⟩
    | succ m ihm =>
      intro p c o hm hp9 hc hnp
      have ihp : ∀ c' o', c' = cnt (sNt S) (fun u => decide (p - 1 < sPr S u)) → (∀ t, t < sNt S → p - 1 < sPr S t → ¬ nI (ahd S t) = x) → 1 ≤ p → J 2 mX4_trainAtRank 5 [some (.ref a), some (.int x), some (.int (nI c')), some (.int (nI (p - 1))), o'] [] w 0 0 (RI (.int (oI (rkX S x))) w) := fun c' o' e1 e2 e3 => ihm (p - 1) c' o' (by omega) (by omega) e1 e2
      have loop : 1 ≤ p → ∀ n k c, sNt S < n + k → k ≤ sNt S → c = cnt (sNt S) (fun u => decide (p < sPr S u)) + cnt k (fun u => sPr S u == p) → (∀ t, t < sNt S → sPr S t = p ∧ t < k → ¬ nI (ahd S t) = x) → J 2 mX4_trainAtRank 13 [some (.ref a), some (.int x), some (.int (nI c)), some (.int (nI p)), some (.int (nI k))] [] w 0 0 (RI (.int (oI (rkX S x))) w) := by
        intro hp1 n
        induction n with
        | zero => intros; omega
        | succ n ih =>
          intro k c q1 q2 hc hno
          refine J_iload dX4_trainAtRank_13 rfl ?_
          refine J_aload_n dX4_trainAtRank_15 rfl rfl ?_
          refine J_getfield dX4_trainAtRank_16 fX4_15 hO rfl ?_
          refine J_icmp_ge (tgt := 50) dX4_trainAtRank_19 (by decide) (fun h19 => ?_) (fun h19 => ?_)
          · skip
            have h19 := (nI_leI (by omega) (by omega)).mp h19
            have hk : k = sNt S := by omega
            subst hk
            refine J_iinc (v := nI (p - 1)) dX4_trainAtRank_50 rfl (nI_dec hp1) (by decide) rfl ?_
            refine J_goto (tgt := 5) dX4_trainAtRank_53 (by decide) ?_
            exact ihp _ _ (by rw [pass_is hp1]; exact hc) (fun t ht ht2 => by
                  by_cases q : sPr S t = p
                  · exact hno t ht ⟨q, ht⟩
                  · exact hnp t ht (by omega)) hp1
          · skip
            have h19 := mt (nI_leI (by omega) (by omega)).mpr h19
            refine J_aload_n dX4_trainAtRank_22 rfl rfl ?_
            refine J_getfield dX4_trainAtRank_23 fX4_43 hO rfl ?_
            refine J_iload dX4_trainAtRank_26 rfl ?_
            have q28a := hwf.2.2.2.2.1 k (by omega)
            refine K_iald (v := nI (sPr S k)) dX4_trainAtRank_28 k4 (by omega) (by decide) (htr _ (by omega)).2.1 ?_
            refine J_iload_n dX4_trainAtRank_29 rfl rfl ?_
            refine J_icmp_ne (tgt := 44) dX4_trainAtRank_30 (by decide) (fun h30 => ?_) (fun h30 => ?_)
            · skip
              have h30 := mt (nI_eq (by omega) (by omega)).mpr h30
              refine J_iinc (v := nI (k + 1)) dX4_trainAtRank_44 rfl (nI_succ _).symm (by decide) rfl ?_
              refine J_goto (tgt := 13) dX4_trainAtRank_47 (by decide) ?_
              exact ih (k + 1) _ (by omega) (by omega) (by show _ = _ + (cnt k _ + (if (sPr S k == p) = true then 1 else 0)); rw [if_neg (by simp [h30])]; omega) (fun t ht ht2 => by
                  by_cases q : t = k
                  · subst q; exact absurd ht2.1 h30
                  · exact hno t ht ⟨ht2.1, by omega⟩)
            · skip
              have h30 := (nI_eq (by omega) (by omega)).mp h30
              refine J_iload_n dX4_trainAtRank_33 rfl rfl ?_
              refine J_iload_n dX4_trainAtRank_34 rfl rfl ?_
              refine J_icmp_ne (tgt := 41) dX4_trainAtRank_35 (by decide) (fun h35 => ?_) (fun h35 => ?_)
              · skip
                refine J_iinc (v := nI (c + 1)) dX4_trainAtRank_41 rfl (nI_succ _).symm (by decide) rfl ?_
                refine J_iinc (v := nI (k + 1)) dX4_trainAtRank_44 rfl (nI_succ _).symm (by decide) rfl ?_
                refine J_goto (tgt := 13) dX4_trainAtRank_47 (by decide) ?_
                exact ih (k + 1) _ (by omega) (by omega) (by show _ = _ + (cnt k _ + (if (sPr S k == p) = true then 1 else 0)); rw [h30, if_pos (by simp)]; omega) (fun t ht ht2 => by
                    by_cases q : t = k
                    · subst q; rw [ahd_is ht h30]; exact hc ▸ h35
                    · exact hno t ht ⟨ht2.1, by omega⟩)
              · skip
                refine J_iload dX4_trainAtRank_38 rfl ?_
                exact J_ireturn dX4_trainAtRank_40 rfl rfl ⟨by rw [rkX_some hwf (t := k) (by omega) (by rw [ahd_is (by omega) h30]; exact hc ▸ h35)]; rfl, rfl⟩
      refine J_iload_n dX4_trainAtRank_5 rfl rfl ?_
      refine J_iconst (v := nI 1) dX4_trainAtRank_6 (by decide) ?_
      refine J_icmp_lt (tgt := 56) dX4_trainAtRank_7 (by decide) (fun h7 => ?_) (fun h7 => ?_)
      · skip
        have h7 := (nI_ltI (by omega) (by omega)).mp h7
        refine J_iconst (v := (-1)) dX4_trainAtRank_56 (by decide) ?_
        exact J_ireturn dX4_trainAtRank_57 rfl rfl ⟨by rw [rkX_none (fun t ht => hnp t ht (by have := (hwf.2.2.2.2.1 t ht).2.1; omega))]; rfl, rfl⟩
      · skip
        have h7 := mt (nI_ltI (by omega) (by omega)).mpr h7
        refine J_iconst (v := nI 0) dX4_trainAtRank_10 (by decide) ?_
        refine J_istore dX4_trainAtRank_11 (by decide) rfl ?_
        exact loop (by omega) (sNt S + 1) 0 c (by omega) (by omega) (by rw [hc]; rfl) (fun t ht h => by omega)
  refine J_iconst (v := nI 0) dX4_trainAtRank_0 (by decide) ?_
  refine J_istore_n dX4_trainAtRank_1 rfl (by decide) rfl ?_
  refine J_bipush (v := nI 9) dX4_trainAtRank_2 (by decide) ?_
  refine J_istore_n dX4_trainAtRank_4 rfl (by decide) rfl ?_
  exact outer 9 9 0 none (by omega) (by omega) (by rw [cnt_0 (fun t ht => by have := (hwf.2.2.2.2.1 t ht).2.2.1; simp; omega)]) (fun t ht h => by have := (hwf.2.2.2.2.1 t ht).2.2.1; omega)

theorem c_X4_allWaits {w : Wd} {a : Nat} {S : St} (hL : RepC w a S) : MC 2 mX4_allWaits 0 0 [.ref a] w (RI (.int (sumW (sWa S) (sNt S))) w) := by
  have hL_ := hL
  obtain ⟨x4, x5, x6, f1, f2, f3, f4, f5, f6, f7, f8, hO, ⟨k1, k2, k3, k4, k5, k6, k7, k8⟩, ⟨bc, ba, bo⟩, hlen, hlk, htr, hwf⟩ := hL_
  have hnb := hwf.nb
  have hnt := hwf.nt
  refine MC_j pnX4 rfl rfl rfl (Or.inr (fun E w h => by cases h.1)) ?_
  show J 2 mX4_allWaits 0 [some (.ref a), none, none] [] w 0 0 _
  have loop : ∀ n k, sNt S < n + k → k ≤ sNt S → J 2 mX4_allWaits 4 [some (.ref a), some (.int (sumW (sWa S) k)), some (.int (nI k))] [] w 0 0 (RI (.int (sumW (sWa S) (sNt S))) w) := by
    intro n
    induction n with
    | zero => intros; omega
    | succ n ih =>
      intro k q1 q2
      refine J_iload_n dX4_allWaits_4 rfl rfl ?_
      refine J_aload_n dX4_allWaits_5 rfl rfl ?_
      refine J_getfield dX4_allWaits_6 fX4_15 hO rfl ?_
      refine J_icmp_ge (tgt := 27) dX4_allWaits_9 (by decide) (fun h9 => ?_) (fun h9 => ?_)
      · skip
        have h9 := (nI_leI (by omega) (by omega)).mp h9
        have ek : k = sNt S := by omega
        subst ek
        refine J_iload_n dX4_allWaits_27 rfl rfl ?_
        exact J_ireturn dX4_allWaits_28 rfl rfl ⟨rfl, rfl⟩
      · skip
        have h9 := mt (nI_leI (by omega) (by omega)).mpr h9
        refine J_iload_n dX4_allWaits_12 rfl rfl ?_
        refine J_aload_n dX4_allWaits_13 rfl rfl ?_
        refine J_getfield dX4_allWaits_14 fX4_55 hO rfl ?_
        refine J_iload_n dX4_allWaits_17 rfl rfl ?_
        refine K_iald (v := sWa S k) dX4_allWaits_18 k8 (by omega) (by decide) (htr _ (by omega)).2.2.2.2.2 ?_
        refine K_iadd (v := sumW (sWa S) (k + 1)) dX4_allWaits_19 rfl ?_
        refine J_istore_n dX4_allWaits_20 rfl (by decide) rfl ?_
        refine J_iinc (v := nI (k + 1)) dX4_allWaits_21 rfl (nI_succ _).symm (by decide) rfl ?_
        refine J_goto (tgt := 4) dX4_allWaits_24 (by decide) ?_
        exact ih (k + 1)  (by omega) (by omega)
  refine J_iconst (v := nI 0) dX4_allWaits_0 (by decide) ?_
  refine J_istore_n dX4_allWaits_1 rfl (by decide) rfl ?_
  refine J_iconst (v := nI 0) dX4_allWaits_2 (by decide) ?_
  refine J_istore_n dX4_allWaits_3 rfl (by decide) rfl ?_
  exact loop (sNt S + 1) 0 (by omega) (by omega)

theorem c_X4_countLinks {w : Wd} {a : Nat} {S : St} (hL : RepC w a S) : MC 3 mX4_countLinks 0 0 [.ref a] w (RI (.int (nI (lkN S (sNb S)))) w) := by
  have hL_ := hL
  obtain ⟨x4, x5, x6, f1, f2, f3, f4, f5, f6, f7, f8, hO, ⟨k1, k2, k3, k4, k5, k6, k7, k8⟩, ⟨bc, ba, bo⟩, hlen, hlk, htr, hwf⟩ := hL_
  have hnb := hwf.nb
  have hnt := hwf.nt
  refine MC_j pnX4 rfl rfl rfl (Or.inr (fun E w h => by cases h.1)) ?_
  show J 3 mX4_countLinks 0 [some (.ref a), none, none] [] w 0 0 _
  have loop : ∀ n k, sNb S < n + k → k ≤ sNb S → J 3 mX4_countLinks 4 [some (.ref a), some (.int (nI (sumC (sLk S) (sNb S) k))), some (.int (nI k))] [] w 0 0 (RI (.int (nI (lkN S (sNb S)))) w) := by
    intro n
    induction n with
    | zero => intros; omega
    | succ n ih =>
      intro k q1 q2
      refine J_iload_n dX4_countLinks_4 rfl rfl ?_
      refine J_aload_n dX4_countLinks_5 rfl rfl ?_
      refine J_getfield dX4_countLinks_6 fX4_9 hO rfl ?_
      refine J_icmp_ge (tgt := 30) dX4_countLinks_9 (by decide) (fun h9 => ?_) (fun h9 => ?_)
      · skip
        have h9 := (nI_leI (by omega) (by omega)).mp h9
        have ek : k = sNb S := by omega
        subst ek
        refine J_iload_n dX4_countLinks_30 rfl rfl ?_
        refine J_iconst (v := nI 2) dX4_countLinks_31 (by decide) ?_
        refine K_idiv (v := nI (lkN S (sNb S))) dX4_countLinks_32 (by decide) (by rw [sumC_2 (fun a b e => ⟨(hwf.2.2.2.1 a b e).2.2.1, (hwf.2.2.2.1 a b e).2.2.2⟩)]; exact nI_half _ (lkN_b hwf)) ?_
        exact J_ireturn dX4_countLinks_33 rfl rfl ⟨rfl, rfl⟩
      · skip
        have h9 := mt (nI_leI (by omega) (by omega)).mpr h9
        refine J_iload_n dX4_countLinks_12 rfl rfl ?_
        refine J_aload_n dX4_countLinks_13 rfl rfl ?_
        refine J_getfield dX4_countLinks_14 fX4_37 hO rfl ?_
        refine J_iload_n dX4_countLinks_17 rfl rfl ?_
        refine K_iald dX4_countLinks_18 k2 (by omega) (by decide) rfl ?_
        refine K_callS dX4_countLinks_19 YJ6_bitCount_0f7a4 kX4_86 (c_bitCount w (hlk k (by omega)) hnb (fun j hj => by cases q : sLk S k j with | false => rfl | true => have := (hwf.2.2.2.1 k j q).2.1; omega)) rfl rfl (Nat.le_of_ble_eq_true rfl) (by decide) ?_
        refine K_iadd (v := nI (sumC (sLk S) (sNb S) (k + 1))) dX4_countLinks_22 (nI_add _ _) ?_
        refine J_istore_n dX4_countLinks_23 rfl (by decide) rfl ?_
        refine J_iinc (v := nI (k + 1)) dX4_countLinks_24 rfl (nI_succ _).symm (by decide) rfl ?_
        refine J_goto (tgt := 4) dX4_countLinks_27 (by decide) ?_
        exact ih (k + 1)  (by omega) (by omega)
  refine J_iconst (v := nI 0) dX4_countLinks_0 (by decide) ?_
  refine J_istore_n dX4_countLinks_1 rfl (by decide) rfl ?_
  refine J_iconst (v := nI 0) dX4_countLinks_2 (by decide) ?_
  refine J_istore_n dX4_countLinks_3 rfl (by decide) rfl ?_
  exact loop (sNb S + 1) 0 (by omega) (by omega)

theorem c_X4_countHolds {w : Wd} {a : Nat} {S : St} (hL : RepC w a S) : MC 2 mX4_countHolds 0 0 [.ref a] w (RI (.int (nI (cnt (sNt S) (fun t => (sHo S t).isSome)))) w) := by
  have hL_ := hL
  obtain ⟨x4, x5, x6, f1, f2, f3, f4, f5, f6, f7, f8, hO, ⟨k1, k2, k3, k4, k5, k6, k7, k8⟩, ⟨bc, ba, bo⟩, hlen, hlk, htr, hwf⟩ := hL_
  have hnb := hwf.nb
  have hnt := hwf.nt
  refine MC_j pnX4 rfl rfl rfl (Or.inr (fun E w h => by cases h.1)) ?_
  show J 2 mX4_countHolds 0 [some (.ref a), none, none] [] w 0 0 _
  have loop : ∀ n k, sNt S < n + k → k ≤ sNt S → J 2 mX4_countHolds 4 [some (.ref a), some (.int (nI (cnt k (fun t => (sHo S t).isSome)))), some (.int (nI k))] [] w 0 0 (RI (.int (nI (cnt (sNt S) (fun t => (sHo S t).isSome)))) w) := by
    intro n
    induction n with
    | zero => intros; omega
    | succ n ih =>
      intro k q1 q2
      refine J_iload_n dX4_countHolds_4 rfl rfl ?_
      refine J_aload_n dX4_countHolds_5 rfl rfl ?_
      refine J_getfield dX4_countHolds_6 fX4_15 hO rfl ?_
      refine J_icmp_ge (tgt := 31) dX4_countHolds_9 (by decide) (fun h9 => ?_) (fun h9 => ?_)
      · skip
        have h9 := (nI_leI (by omega) (by omega)).mp h9
        have ek : k = sNt S := by omega
        subst ek
        refine J_iload_n dX4_countHolds_31 rfl rfl ?_
        exact J_ireturn dX4_countHolds_32 rfl rfl ⟨rfl, rfl⟩
      · skip
        have h9 := mt (nI_leI (by omega) (by omega)).mpr h9
        refine J_aload_n dX4_countHolds_12 rfl rfl ?_
        refine J_getfield dX4_countHolds_13 fX4_52 hO rfl ?_
        refine J_iload_n dX4_countHolds_16 rfl rfl ?_
        refine K_iald (v := oI (sHo S k)) dX4_countHolds_17 k7 (by omega) (by decide) (htr _ (by omega)).2.2.2.2.1 ?_
        refine J_iconst (v := (-1)) dX4_countHolds_18 (by decide) ?_
        refine J_icmp_eq (tgt := 25) dX4_countHolds_19 (by decide) (fun h19 => ?_) (fun h19 => ?_)
        · skip
          have e19 : sHo S k = none := (oI_m1 (sHo_b hwf (by omega))).mp h19
          refine J_iinc (v := nI (k + 1)) dX4_countHolds_25 rfl (nI_succ _).symm (by decide) rfl ?_
          refine J_goto (tgt := 4) dX4_countHolds_28 (by decide) ?_
          have e2 : cnt (k + 1) (fun t => (sHo S t).isSome) = cnt k (fun t => (sHo S t).isSome) := by
            show cnt k _ + (if (sHo S k).isSome = true then 1 else 0) = _
            rw [e19]
            rfl
          rw [← e2]
          exact ih (k + 1) (by omega) (by omega)
        · skip
          obtain ⟨k19, e19⟩ : ∃ k_, sHo S k = some k_ := by
            cases q : sHo S k with
            | none => exact absurd ((oI_m1 (sHo_b hwf (by omega))).mpr q) h19
            | some k_ => exact ⟨k_, rfl⟩
          refine J_iinc (v := nI (cnt k (fun t => (sHo S t).isSome) + 1)) dX4_countHolds_22 rfl (nI_succ _).symm (by decide) rfl ?_
          refine J_iinc (v := nI (k + 1)) dX4_countHolds_25 rfl (nI_succ _).symm (by decide) rfl ?_
          refine J_goto (tgt := 4) dX4_countHolds_28 (by decide) ?_
          have e2 : cnt (k + 1) (fun t => (sHo S t).isSome) = cnt k (fun t => (sHo S t).isSome) + 1 := by
            show cnt k _ + (if (sHo S k).isSome = true then 1 else 0) = _
            rw [e19]
            rfl
          rw [← e2]
          exact ih (k + 1) (by omega) (by omega)
  refine J_iconst (v := nI 0) dX4_countHolds_0 (by decide) ?_
  refine J_istore_n dX4_countHolds_1 rfl (by decide) rfl ?_
  refine J_iconst (v := nI 0) dX4_countHolds_2 (by decide) ?_
  refine J_istore_n dX4_countHolds_3 rfl (by decide) rfl ?_
  exact loop (sNt S + 1) 0 (by omega) (by omega)

theorem c_X4_letsIn {w : Wd} {a : Nat} {S : St} (hL : RepC w a S) {t b : Nat} (ht : t < 32) (hb : b < 32) : MC 3 mX4_letsIn 0 0 [.ref a, .int (nI t), .int (nI b)] w (RI (.int (b2i (decide (tAt S b = none ∧ (hOf S b = none ∨ hOf S b = some t))))) w) := by
  have hL_ := hL
  obtain ⟨x4, x5, x6, f1, f2, f3, f4, f5, f6, f7, f8, hO, ⟨k1, k2, k3, k4, k5, k6, k7, k8⟩, ⟨bc, ba, bo⟩, hlen, hlk, htr, hwf⟩ := hL_
  have hnb := hwf.nb
  have hnt := hwf.nt
  refine MC_j pnX4 rfl rfl rfl (Or.inr (fun E w h => by cases h.1)) ?_
  show J 3 mX4_letsIn 0 [some (.ref a), some (.int (nI t)), some (.int (nI b)), none] [] w 0 0 _
  refine J_aload_n dX4_letsIn_0 rfl rfl ?_
  refine J_iload_n dX4_letsIn_1 rfl rfl ?_
  refine K_callV dX4_letsIn_2 YX4_holderOf kX4_72 (rc_of hO rfl) (c_X4_holderOf hL (by omega)) rfl rfl (Nat.le_of_ble_eq_true rfl) (by decide) ?_
  refine J_istore_n dX4_letsIn_5 rfl (by decide) rfl ?_
  refine J_aload_n dX4_letsIn_6 rfl rfl ?_
  refine J_iload_n dX4_letsIn_7 rfl rfl ?_
  refine K_callV dX4_letsIn_8 YX4_trainAt kX4_68 (rc_of hO rfl) (c_X4_trainAt hL (by omega)) rfl rfl (Nat.le_of_ble_eq_true rfl) (by decide) ?_
  refine J_iconst (v := (-1)) dX4_letsIn_11 (by decide) ?_
  refine J_icmp_ne (tgt := 29) dX4_letsIn_12 (by decide) (fun h12 => ?_) (fun h12 => ?_)
  · skip
    obtain ⟨k12, e12⟩ : ∃ k_, tAt S b = some k_ := by
      cases q : tAt S b with
      | none => exact absurd ((oI_m1 (tAt_b hL.wf)).mpr q) h12
      | some k_ => exact ⟨k_, rfl⟩
    refine J_iconst (v := nI 0) dX4_letsIn_29 (by decide) ?_
    exact J_ireturn dX4_letsIn_30 rfl rfl ⟨by rw [show (decide (tAt S b = none ∧ (hOf S b = none ∨ hOf S b = some t))) = false from by simp_all]; rfl, rfl⟩
  · skip
    have e12 : tAt S b = none := (oI_m1 (tAt_b hL.wf)).mp h12
    refine J_iload_n dX4_letsIn_15 rfl rfl ?_
    refine J_iconst (v := (-1)) dX4_letsIn_16 (by decide) ?_
    refine J_icmp_eq (tgt := 25) dX4_letsIn_17 (by decide) (fun h17 => ?_) (fun h17 => ?_)
    · skip
      have e17 : hOf S b = none := (oI_m1 (hOf_b hL.wf)).mp h17
      refine J_iconst (v := nI 1) dX4_letsIn_25 (by decide) ?_
      refine J_goto (tgt := 30) dX4_letsIn_26 (by decide) ?_
      exact J_ireturn dX4_letsIn_30 rfl rfl ⟨by rw [show (decide (tAt S b = none ∧ (hOf S b = none ∨ hOf S b = some t))) = true from by simp_all]; rfl, rfl⟩
    · skip
      obtain ⟨k17, e17⟩ : ∃ k_, hOf S b = some k_ := by
        cases q : hOf S b with
        | none => exact absurd ((oI_m1 (hOf_b hL.wf)).mpr q) h17
        | some k_ => exact ⟨k_, rfl⟩
      refine J_iload_n dX4_letsIn_20 rfl rfl ?_
      refine J_iload_n dX4_letsIn_21 rfl rfl ?_
      refine J_icmp_ne (tgt := 29) dX4_letsIn_22 (by decide) (fun h22 => ?_) (fun h22 => ?_)
      · skip
        have h22 : hOf S b ≠ some t := by
          intro q
          rw [q] at h22
          exact h22 rfl
        refine J_iconst (v := nI 0) dX4_letsIn_29 (by decide) ?_
        exact J_ireturn dX4_letsIn_30 rfl rfl ⟨by rw [show (decide (tAt S b = none ∧ (hOf S b = none ∨ hOf S b = some t))) = false from by simp_all]; rfl, rfl⟩
      · skip
        have h22 : hOf S b = some t := by
          rw [e17] at h22 ⊢
          have h2 := hOf_b hwf _ e17
          rw [nI_inj h2 (by omega) h22]
        refine J_iconst (v := nI 1) dX4_letsIn_25 (by decide) ?_
        refine J_goto (tgt := 30) dX4_letsIn_26 (by decide) ?_
        exact J_ireturn dX4_letsIn_30 rfl rfl ⟨by rw [show (decide (tAt S b = none ∧ (hOf S b = none ∨ hOf S b = some t))) = true from by simp_all]; rfl, rfl⟩

end JLAYOUT2

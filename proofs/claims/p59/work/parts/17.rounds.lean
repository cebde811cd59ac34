/-! ROUTES: the rounds -/
section JROUNDS
theorem any_s {k : Nat} {p : Nat → Bool} : (fnd (k + 1) p).isSome = ((fnd k p).isSome || p k) := by
  cases e : fnd k p with
  | some j =>
    obtain ⟨h1, h2, h3⟩ := fnd_is e
    rw [fnd_some (n := k + 1) (by omega) h2 h3]
    rfl
  | none =>
    have h := fnd_no e
    cases hp : p k with
    | true => rw [fnd_some (n := k + 1) (by omega) hp h]; rfl
    | false =>
      rw [fnd_none (n := k + 1) fun j hj => ?_]
      · rfl
      · by_cases q : j = k
        · rw [q]; exact hp
        · exact h j (by omega)
theorem c_X6_shortenFrom {w : Wd} {r a i : Nat} {S : St} {v : Nat → Nat} {f : Nat → Int32} (hR : RepR w r) (hL : RepC w a S) (hd : r + 4 ≤ a ∨ a + 9 ≤ r) (hi : i < sNb S) (hc : w.1 (r + 2) = .inl (0, 14, .inl f)) (hrow : ∀ b, b < sNb S → f b = nI (v b)) (hv : ∀ b, b < sNb S → v b ≤ 1000) : MC 4 mX6_shortenFrom 0 0 [.ref r, .ref a, .int (nI i)] w (RP (fun x w' => x = some (.int (b2i (shr (sNb S) (sLen S) (sLk S) v i (sNb S)))) ∧ Fr w w' (r + 2) (r + 3) ∧ ∃ f : Nat → Int32, w'.1 (r + 2) = .inl (0, 14, .inl f) ∧ ∀ b, b < sNb S → f b = nI (rlx (sLen S) (sLk S) v i b))) := by
  obtain ⟨g1, g2, g3, rO, r1, r2, r3⟩ := id hR
  have r2 := hc
  have hvi := hv i hi
  have hL_ := hL
  obtain ⟨x4, x5, x6, f1, f2, f3, f4, f5, f6, f7, f8, hO, ⟨k1, k2, k3, k4, k5, k6, k7, k8⟩, ⟨bc, ba, bo⟩, hlen, hlk, htr, hwf⟩ := hL_
  have hnb := hwf.nb
  have hnt := hwf.nt
  have hO_0 := hO
  have k1_0 := k1
  have k2_0 := k2
  have k3_0 := k3
  have k4_0 := k4
  have k5_0 := k5
  have k6_0 := k6
  have k7_0 := k7
  have k8_0 := k8
  have r1_0 := r1
  have r2_0 := r2
  have r3_0 := r3
  have rO_0 := rO
  refine MC_j pnX6 rfl rfl rfl (Or.inr (fun E w h => RP_no E w h)) ?_
  show J 4 mX6_shortenFrom 0 [some (.ref r), some (.ref a), some (.int (nI i)), none, none, none] [] w 0 0 _
  have loop : ∀ n j w1 f o5, sNb S < n + j → j ≤ sNb S → Fr w w1 (r + 2) (r + 3) → w1.1 (r + 2) = .inl (0, 14, .inl f) → (∀ b, b < sNb S → f b = nI (if b < j then rlx (sLen S) (sLk S) v i b else v b)) → J 4 mX6_shortenFrom 19 [some (.ref r), some (.ref a), some (.int (nI i)), some (.int (b2i (shr (sNb S) (sLen S) (sLk S) v i j))), some (.int (nI j)), o5] [] w1 0 0 (RP (fun x w' => x = some (.int (b2i (shr (sNb S) (sLen S) (sLk S) v i (sNb S)))) ∧ Fr w w' (r + 2) (r + 3) ∧ ∃ f : Nat → Int32, w'.1 (r + 2) = .inl (0, 14, .inl f) ∧ ∀ b, b < sNb S → f b = nI (rlx (sLen S) (sLk S) v i b))) := by
    intro n
    induction n with
    | zero => intros; omega
    | succ n ih =>
      intro j w1 f o5 q1 q2 hFr r2 hrow
      have hO := (hFr.1 _ (by omega)).trans hO_0
      have k1 := (hFr.1 _ (by omega)).trans k1_0
      have k2 := (hFr.1 _ (by omega)).trans k2_0
      have k3 := (hFr.1 _ (by omega)).trans k3_0
      have k4 := (hFr.1 _ (by omega)).trans k4_0
      have k5 := (hFr.1 _ (by omega)).trans k5_0
      have k6 := (hFr.1 _ (by omega)).trans k6_0
      have k7 := (hFr.1 _ (by omega)).trans k7_0
      have k8 := (hFr.1 _ (by omega)).trans k8_0
      have r1 := (hFr.1 _ (by omega)).trans r1_0
      have r3 := (hFr.1 _ (by omega)).trans r3_0
      have rO := (hFr.1 _ (by omega)).trans rO_0
      refine J_iload dX6_shortenFrom_19 rfl ?_
      refine J_aload_n dX6_shortenFrom_21 rfl rfl ?_
      refine J_getfield dX6_shortenFrom_22 fX6_21 hO rfl ?_
      refine J_icmp_ge (tgt := 83) dX6_shortenFrom_25 (by decide) (fun h25 => ?_) (fun h25 => ?_)
      · skip
        have h25 := (nI_leI (by omega) (by omega)).mp h25
        have ej : j = sNb S := by omega
        subst ej
        refine J_iload_n dX6_shortenFrom_83 rfl rfl ?_
        exact J_ireturn dX6_shortenFrom_84 rfl (b2i_nar _) (RP_i ⟨rfl, hFr, _, r2, fun b hb => by rw [hrow b hb, if_pos hb]⟩)
      · skip
        have h25 := mt (nI_leI (by omega) (by omega)).mpr h25
        have hlj := hwf.2.1 j (by omega)
        have hvj := hv j (by omega)
        refine J_aload_n dX6_shortenFrom_28 rfl rfl ?_
        refine J_getfield dX6_shortenFrom_29 fX6_15 rO rfl ?_
        refine J_iload_n dX6_shortenFrom_32 rfl rfl ?_
        refine K_iald (v := nI (v i)) dX6_shortenFrom_33 r2 (by omega) (by decide) (by rw [hrow i (by omega), rlx_self (wf_mm hwf i)]; split <;> rfl) ?_
        refine J_aload_n dX6_shortenFrom_34 rfl rfl ?_
        refine J_getfield dX6_shortenFrom_35 fX6_31 hO rfl ?_
        refine J_iload dX6_shortenFrom_38 rfl ?_
        have q40a := hwf.2.1 j (by omega)
        refine K_iald (v := nI (sLen S j)) dX6_shortenFrom_40 k1 (by omega) (by decide) (hlen _ (by omega)) ?_
        refine K_iadd (v := nI (v i + (sLen S j))) dX6_shortenFrom_41 (nI_add _ _) ?_
        refine J_istore dX6_shortenFrom_42 (by decide) rfl ?_
        refine J_aload_n dX6_shortenFrom_44 rfl rfl ?_
        refine J_iload_n dX6_shortenFrom_45 rfl rfl ?_
        refine J_iload dX6_shortenFrom_46 rfl ?_
        refine K_callV dX6_shortenFrom_48 YX4_isJoined kX6_45 (rc_of hO rfl) (c_X4_isJoined (hL.fr hFr (by omega)) (by omega) (by omega)) rfl rfl (Nat.le_of_ble_eq_true rfl) (by decide) ?_
        refine J_if_eq (tgt := 77) dX6_shortenFrom_51 (by decide) (fun h51 => ?_) (fun h51 => ?_)
        · skip
          have e51 : sLk S i j = false := b2i_eq.mp h51
          refine J_iinc (v := nI (j + 1)) dX6_shortenFrom_77 rfl (nI_succ _).symm (by decide) rfl ?_
          refine J_goto (tgt := 19) dX6_shortenFrom_80 (by decide) ?_
          have es : shr (sNb S) (sLen S) (sLk S) v i (j + 1) = shr (sNb S) (sLen S) (sLk S) v i j := by
            unfold shr
            rw [any_s, e51]
            simp
          have g := ih (j + 1) w1 _ (some (.int (nI (v i + sLen S j)))) (by omega) (by omega) hFr r2 (fun b hb => by
            by_cases e : b = j
            · subst e
              rw [hrow _ hb, if_neg (by omega), if_pos (by omega)]
              unfold rlx
              rw [if_neg (fun q => by rw [e51] at q; cases q.1)]
            · rw [hrow b hb]
              by_cases e2 : b < j
              · rw [if_pos e2, if_pos (by omega)]
              · rw [if_neg e2, if_neg (by omega)])
          rw [es] at g
          exact g
        · skip
          have e51 : sLk S i j = true := b2i_ne.mp h51
          refine J_iload dX6_shortenFrom_54 rfl ?_
          refine J_aload_n dX6_shortenFrom_56 rfl rfl ?_
          refine J_getfield dX6_shortenFrom_57 fX6_15 rO rfl ?_
          refine J_iload dX6_shortenFrom_60 rfl ?_
          refine K_iald (v := nI (v j)) dX6_shortenFrom_62 r2 (by omega) (by decide) (by rw [hrow j (by omega), if_neg (by omega)]) ?_
          refine J_icmp_ge (tgt := 77) dX6_shortenFrom_63 (by decide) (fun h63 => ?_) (fun h63 => ?_)
          · skip
            have h63 := (nI_leI (by omega) (by omega)).mp h63
            refine J_iinc (v := nI (j + 1)) dX6_shortenFrom_77 rfl (nI_succ _).symm (by decide) rfl ?_
            refine J_goto (tgt := 19) dX6_shortenFrom_80 (by decide) ?_
            have es : shr (sNb S) (sLen S) (sLk S) v i (j + 1) = shr (sNb S) (sLen S) (sLk S) v i j := by
              unfold shr
              rw [any_s, e51, decide_eq_false (by omega)]
              simp
            have g := ih (j + 1) w1 _ (some (.int (nI (v i + sLen S j)))) (by omega) (by omega) hFr r2 (fun b hb => by
              by_cases e : b = j
              · subst e
                rw [hrow _ hb, if_neg (by omega), if_pos (by omega)]
                unfold rlx
                rw [if_neg (fun q => by have := q.2; omega)]
              · rw [hrow b hb]
                by_cases e2 : b < j
                · rw [if_pos e2, if_pos (by omega)]
                · rw [if_neg e2, if_neg (by omega)])
            rw [es] at g
            exact g
          · skip
            have h63 := mt (nI_leI (by omega) (by omega)).mpr h63
            refine J_aload_n dX6_shortenFrom_66 rfl rfl ?_
            refine J_getfield dX6_shortenFrom_67 fX6_15 rO rfl ?_
            refine J_iload dX6_shortenFrom_70 rfl ?_
            refine J_iload dX6_shortenFrom_72 rfl ?_
            refine K_iast dX6_shortenFrom_74 r2 (by omega) (by decide) (fun w1 u1 => ?_)
            have hO := (u1.2.1 _ (by omega)).trans hO
            have k1 := (u1.2.1 _ (by omega)).trans k1
            have k2 := (u1.2.1 _ (by omega)).trans k2
            have k3 := (u1.2.1 _ (by omega)).trans k3
            have k4 := (u1.2.1 _ (by omega)).trans k4
            have k5 := (u1.2.1 _ (by omega)).trans k5
            have k6 := (u1.2.1 _ (by omega)).trans k6
            have k7 := (u1.2.1 _ (by omega)).trans k7
            have k8 := (u1.2.1 _ (by omega)).trans k8
            have r1 := (u1.2.1 _ (by omega)).trans r1
            have r2 := u1.1
            have r3 := (u1.2.1 _ (by omega)).trans r3
            have rO := (u1.2.1 _ (by omega)).trans rO
            refine J_iconst (v := nI 1) dX6_shortenFrom_75 (by decide) ?_
            refine J_istore_n dX6_shortenFrom_76 rfl (by decide) rfl ?_
            refine J_iinc (v := nI (j + 1)) dX6_shortenFrom_77 rfl (nI_succ _).symm (by decide) rfl ?_
            refine J_goto (tgt := 19) dX6_shortenFrom_80 (by decide) ?_
            have es : shr (sNb S) (sLen S) (sLk S) v i (j + 1) = true := by
              unfold shr
              rw [any_s, e51, decide_eq_true (by omega)]
              simp
            have g := ih (j + 1) w1 _ (some (.int (nI (v i + sLen S j)))) (by omega) (by omega) (hFr.up u1 (by omega) (by omega)) r2 (fun b hb => by
              by_cases e : b = j
              · subst e
                rw [up_s, if_pos (by omega)]
                unfold rlx
                rw [if_pos ⟨e51, by omega⟩]
              · rw [up_n _ _ e, hrow b hb]
                by_cases e2 : b < j
                · rw [if_pos e2, if_pos (by omega)]
                · rw [if_neg e2, if_neg (by omega)])
            rw [es] at g
            exact g
  refine J_aload_n dX6_shortenFrom_0 rfl rfl ?_
  refine J_getfield dX6_shortenFrom_1 fX6_15 rO rfl ?_
  refine J_iload_n dX6_shortenFrom_4 rfl rfl ?_
  refine K_iald (v := nI (v i)) dX6_shortenFrom_5 r2 (by omega) (by decide) (hrow i hi) ?_
  refine J_sipush (v := nI 1000) dX6_shortenFrom_6 (by decide) ?_
  refine J_icmp_lt (tgt := 14) dX6_shortenFrom_9 (by decide) (fun h9 => ?_) (fun h9 => ?_)
  · skip
    have h9 := (nI_ltI (by omega) (by omega)).mp h9
    refine J_iconst (v := nI 0) dX6_shortenFrom_14 (by decide) ?_
    refine J_istore_n dX6_shortenFrom_15 rfl (by decide) rfl ?_
    refine J_iconst (v := nI 0) dX6_shortenFrom_16 (by decide) ?_
    refine J_istore dX6_shortenFrom_17 (by decide) rfl ?_
    exact loop (sNb S + 1) 0 w f none (by omega) (by omega) (Fr.rf _ _ _) r2 (fun b hb => by rw [hrow b hb, if_neg (by omega)])
  · skip
    have h9 := mt (nI_ltI (by omega) (by omega)).mpr h9
    refine J_iconst (v := nI 0) dX6_shortenFrom_12 (by decide) ?_
    exact J_ireturn dX6_shortenFrom_13 rfl rfl (RP_i ⟨(by rw [show shr (sNb S) (sLen S) (sLk S) v i (sNb S) = false from by unfold shr; rw [fnd_none (fun j hj => by rw [decide_eq_false (by have := hv j hj; omega)]; simp)]; rfl]; rfl), Fr.rf _ _ _, _, r2, fun b hb => by unfold rlx; rw [hrow b hb, if_neg (fun q => by have := q.2; have := hv b hb; omega)]⟩)

theorem c_X6_measureByRounds {w : Wd} {r a s : Nat} {S : St} (hR : RepR w r) (hL : RepC w a S) (hd : r + 4 ≤ a ∨ a + 9 ≤ r) (hs : s < sNb S) : MC 5 mX6_measureByRounds 0 0 [.ref r, .ref a, .int (nI s)] w (RP (fun v w' => v = none ∧ Row w w' (r + 2) S s)) := by
  obtain ⟨g1, g2, g3, rO, r1, r2, r3⟩ := id hR
  have hL_ := hL
  obtain ⟨x4, x5, x6, f1, f2, f3, f4, f5, f6, f7, f8, hO, ⟨k1, k2, k3, k4, k5, k6, k7, k8⟩, ⟨bc, ba, bo⟩, hlen, hlk, htr, hwf⟩ := hL_
  have hnb := hwf.nb
  have hnt := hwf.nt
  have hO_0 := hO
  have k1_0 := k1
  have k2_0 := k2
  have k3_0 := k3
  have k4_0 := k4
  have k5_0 := k5
  have k6_0 := k6
  have k7_0 := k7
  have k8_0 := k8
  have r1_0 := r1
  have r2_0 := r2
  have r3_0 := r3
  have rO_0 := rO
  refine MC_j pnX6 rfl rfl rfl (Or.inr (fun E w h => RP_no E w h)) ?_
  show J 5 mX6_measureByRounds 0 [some (.ref r), some (.ref a), some (.int (nI s)), none, none, none] [] w 0 0 _
  have loop2 : ∀ n k w1 f v sh o5, sNb S + 1 < n + k → k ≤ sNb S + 1 → Fr w w1 (r + 2) (r + 3) → w1.1 (r + 2) = .inl (0, 14, .inl f) → (∀ b, b < sNb S → f b = nI (v b)) → RExact (sNb S) (sLen S) (sLk S) s k v → (sh = false → ∀ b, b < sNb S → v b = dF 1000 (dst (sLen S) (sLk S) s b)) → J 5 mX6_measureByRounds 39 [some (.ref r), some (.ref a), some (.int (nI s)), some (.int (b2i sh)), some (.int (nI k)), o5] [] w1 0 0 (RP (fun v w' => v = none ∧ Row w w' (r + 2) S s)) := by
    intro n
    induction n with
    | zero => intros; omega
    | succ n ih =>
      intro k w1 f v sh o5 q1 q2 hFr r2 hrow hX hdone
      have hO := (hFr.1 _ (by omega)).trans hO_0
      have k1 := (hFr.1 _ (by omega)).trans k1_0
      have k2 := (hFr.1 _ (by omega)).trans k2_0
      have k3 := (hFr.1 _ (by omega)).trans k3_0
      have k4 := (hFr.1 _ (by omega)).trans k4_0
      have k5 := (hFr.1 _ (by omega)).trans k5_0
      have k6 := (hFr.1 _ (by omega)).trans k6_0
      have k7 := (hFr.1 _ (by omega)).trans k7_0
      have k8 := (hFr.1 _ (by omega)).trans k8_0
      have r1 := (hFr.1 _ (by omega)).trans r1_0
      have r3 := (hFr.1 _ (by omega)).trans r3_0
      have rO := (hFr.1 _ (by omega)).trans rO_0
      have loop3 : ∀ p i w2 f2 x sh, sNb S < p + i → i ≤ sNb S → Fr w w2 (r + 2) (r + 3) → w2.1 (r + 2) = .inl (0, 14, .inl f2) → (∀ b, b < sNb S → f2 b = nI (x b)) → Rnd (sNb S) (sLen S) (sLk S) s i v x sh → k ≤ sNb S → J 5 mX6_measureByRounds 57 [some (.ref r), some (.ref a), some (.int (nI s)), some (.int (b2i sh)), some (.int (nI k)), some (.int (nI i))] [] w2 0 0 (RP (fun v w' => v = none ∧ Row w w' (r + 2) S s)) := by
        intro p
        induction p with
        | zero => intros; omega
        | succ p ihp =>
          intro i w2 f2 x sh q1 q2 hFr r2 hrow hN hkb
          have ihi := fun i w2 f2 x sh h1 h2 h3 h4 h5 h6 => ihp i w2 f2 x sh h1 h2 h3 h4 h5 h6 hkb
          have hO := (hFr.1 _ (by omega)).trans hO_0
          have k1 := (hFr.1 _ (by omega)).trans k1_0
          have k2 := (hFr.1 _ (by omega)).trans k2_0
          have k3 := (hFr.1 _ (by omega)).trans k3_0
          have k4 := (hFr.1 _ (by omega)).trans k4_0
          have k5 := (hFr.1 _ (by omega)).trans k5_0
          have k6 := (hFr.1 _ (by omega)).trans k6_0
          have k7 := (hFr.1 _ (by omega)).trans k7_0
          have k8 := (hFr.1 _ (by omega)).trans k8_0
          have r1 := (hFr.1 _ (by omega)).trans r1_0
          have r3 := (hFr.1 _ (by omega)).trans r3_0
          have rO := (hFr.1 _ (by omega)).trans rO_0
          refine J_iload dX6_measureByRounds_57 rfl ?_
          refine J_aload_n dX6_measureByRounds_59 rfl rfl ?_
          refine J_getfield dX6_measureByRounds_60 fX6_21 hO rfl ?_
          refine J_icmp_ge (tgt := 84) dX6_measureByRounds_63 (by decide) (fun h63 => ?_) (fun h63 => ?_)
          · skip
            have h63 := (nI_leI (by omega) (by omega)).mp h63
            have ei : i = sNb S := by omega
            subst ei
            refine J_iinc (v := nI (k + 1)) dX6_measureByRounds_84 rfl (nI_succ _).symm (by decide) rfl ?_
            refine J_goto (tgt := 39) dX6_measureByRounds_87 (by decide) ?_
            exact ih (k + 1) _ _ _ _ (some (.int (nI (sNb S)))) (by omega) (by omega) hFr r2 hrow (rnd_end hnb (wf_lb hwf) hwf.2.1 hN hX) (fun e => by subst e; exact rnd_done hnb (wf_lb hwf) hwf.2.1 hN)
          · skip
            have h63 := mt (nI_leI (by omega) (by omega)).mpr h63
            refine J_aload_n dX6_measureByRounds_66 rfl rfl ?_
            refine J_aload_n dX6_measureByRounds_67 rfl rfl ?_
            refine J_iload dX6_measureByRounds_68 rfl ?_
            refine K_callVp dX6_measureByRounds_70 YX6_shortenFrom kX6_41 (rc_of rO rfl) (c_X6_shortenFrom ⟨_, _, _, rO, r1, r2, r3⟩ (hL.fr hFr (by omega)) hd (show i < sNb S by omega) r2 hrow (fun b hb => hN.1.2.2 b hb)) rfl rfl (Nat.le_of_ble_eq_true rfl) (by decide) (fun v70 w70 q70 => ?_)
            obtain ⟨rfl, hF70, f70, hc70, hrow70⟩ := q70
            have hO := (hF70.1 _ (by omega)).trans hO
            have k1 := (hF70.1 _ (by omega)).trans k1
            have k2 := (hF70.1 _ (by omega)).trans k2
            have k3 := (hF70.1 _ (by omega)).trans k3
            have k4 := (hF70.1 _ (by omega)).trans k4
            have k5 := (hF70.1 _ (by omega)).trans k5
            have k6 := (hF70.1 _ (by omega)).trans k6
            have k7 := (hF70.1 _ (by omega)).trans k7
            have k8 := (hF70.1 _ (by omega)).trans k8
            have r1 := (hF70.1 _ (by omega)).trans r1
            have r3 := (hF70.1 _ (by omega)).trans r3
            have rO := (hF70.1 _ (by omega)).trans rO
            have r2 := hc70
            refine J_if_eq (tgt := 78) dX6_measureByRounds_73 (by decide) (fun h73 => ?_) (fun h73 => ?_)
            · skip
              have e73 : shr (sNb S) (sLen S) (sLk S) x i (sNb S) = false := b2i_eq.mp h73
              refine J_iinc (v := nI (i + 1)) dX6_measureByRounds_78 rfl (nI_succ _).symm (by decide) rfl ?_
              refine J_goto (tgt := 57) dX6_measureByRounds_81 (by decide) ?_
              have g := rnd_step (wf_lb hwf) hN (show i < sNb S by omega)
              rw [e73, Bool.or_false] at g
              exact ihi (i + 1) _ _ _ _ (by omega) (by omega) (hFr.tr hF70 (by omega) (by omega)) r2 hrow70 g
            · skip
              have e73 : shr (sNb S) (sLen S) (sLk S) x i (sNb S) = true := b2i_ne.mp h73
              refine J_iconst (v := nI 1) dX6_measureByRounds_76 (by decide) ?_
              refine J_istore_n dX6_measureByRounds_77 rfl (by decide) rfl ?_
              refine J_iinc (v := nI (i + 1)) dX6_measureByRounds_78 rfl (nI_succ _).symm (by decide) rfl ?_
              refine J_goto (tgt := 57) dX6_measureByRounds_81 (by decide) ?_
              have g := rnd_step (wf_lb hwf) hN (show i < sNb S by omega)
              rw [e73, Bool.or_true] at g
              exact ihi (i + 1) _ _ _ _ (by omega) (by omega) (hFr.tr hF70 (by omega) (by omega)) r2 hrow70 g
      refine J_iload dX6_measureByRounds_39 rfl ?_
      refine J_aload_n dX6_measureByRounds_41 rfl rfl ?_
      refine J_getfield dX6_measureByRounds_42 fX6_21 hO rfl ?_
      refine J_icmp_gt (tgt := 90) dX6_measureByRounds_45 (by decide) (fun h45 => ?_) (fun h45 => ?_)
      · skip
        have h45 := (nI_ltI (by omega) (by omega)).mp h45
        exact J_return dX6_measureByRounds_90 rfl (RP_i ⟨rfl, hFr, _, r2, fun b hb => by rw [hrow b hb, rexact_end (show sNb S ≤ k by omega) hX b hb]; rfl⟩)
      · skip
        have h45 := mt (nI_ltI (by omega) (by omega)).mpr h45
        refine J_iload_n dX6_measureByRounds_48 rfl rfl ?_
        refine J_if_eq (tgt := 90) dX6_measureByRounds_49 (by decide) (fun h49 => ?_) (fun h49 => ?_)
        · skip
          have e49 : sh = false := b2i_eq.mp h49
          exact J_return dX6_measureByRounds_90 rfl (RP_i ⟨rfl, hFr, _, r2, fun b hb => by rw [hrow b hb, hdone e49 b hb]; rfl⟩)
        · skip
          have e49 : sh = true := b2i_ne.mp h49
          refine J_iconst (v := nI 0) dX6_measureByRounds_52 (by decide) ?_
          refine J_istore_n dX6_measureByRounds_53 rfl (by decide) rfl ?_
          refine J_iconst (v := nI 0) dX6_measureByRounds_54 (by decide) ?_
          refine J_istore dX6_measureByRounds_55 (by decide) rfl ?_
          exact loop3 (sNb S + 1) 0 w1 f v false (by omega) (by omega) hFr r2 hrow (rnd_0 hX.1) (by omega)
  have stage2 : ∀ w1 f, Fr w w1 (r + 2) (r + 3) → w1.1 (r + 2) = .inl (0, 14, .inl f) → (∀ j, j < sNb S → f j = nI (row0 s j)) → ∀ k, J 5 mX6_measureByRounds 34 [some (.ref r), some (.ref a), some (.int (nI s)), some (.int (nI k)), none, none] [] w1 0 0 (RP (fun v w' => v = none ∧ Row w w' (r + 2) S s)) := by
    intro w1 f hFr r2 hrow k
    have hO := (hFr.1 _ (by omega)).trans hO_0
    have k1 := (hFr.1 _ (by omega)).trans k1_0
    have k2 := (hFr.1 _ (by omega)).trans k2_0
    have k3 := (hFr.1 _ (by omega)).trans k3_0
    have k4 := (hFr.1 _ (by omega)).trans k4_0
    have k5 := (hFr.1 _ (by omega)).trans k5_0
    have k6 := (hFr.1 _ (by omega)).trans k6_0
    have k7 := (hFr.1 _ (by omega)).trans k7_0
    have k8 := (hFr.1 _ (by omega)).trans k8_0
    have r1 := (hFr.1 _ (by omega)).trans r1_0
    have r3 := (hFr.1 _ (by omega)).trans r3_0
    have rO := (hFr.1 _ (by omega)).trans rO_0
    refine J_iconst (v := nI 1) dX6_measureByRounds_34 (by decide) ?_
    refine J_istore_n dX6_measureByRounds_35 rfl (by decide) rfl ?_
    refine J_iconst (v := nI 0) dX6_measureByRounds_36 (by decide) ?_
    refine J_istore dX6_measureByRounds_37 (by decide) rfl ?_
    exact loop2 (sNb S + 2) 0 w1 f (row0 s) true none (by omega) (by omega) hFr r2 hrow rexact_0 (fun e => by cases e)
  have loop1 : ∀ n k w1 f, sNb S < n + k → k ≤ sNb S → Fr w w1 (r + 2) (r + 3) → w1.1 (r + 2) = .inl (0, 14, .inl f) → (∀ j, j < k → f j = nI (row0 s j)) → J 5 mX6_measureByRounds 2 [some (.ref r), some (.ref a), some (.int (nI s)), some (.int (nI k)), none, none] [] w1 0 0 (RP (fun v w' => v = none ∧ Row w w' (r + 2) S s)) := by
    intro n
    induction n with
    | zero => intros; omega
    | succ n ih =>
      intro k w1 f q1 q2 hFr r2 hrow
      have hO := (hFr.1 _ (by omega)).trans hO_0
      have k1 := (hFr.1 _ (by omega)).trans k1_0
      have k2 := (hFr.1 _ (by omega)).trans k2_0
      have k3 := (hFr.1 _ (by omega)).trans k3_0
      have k4 := (hFr.1 _ (by omega)).trans k4_0
      have k5 := (hFr.1 _ (by omega)).trans k5_0
      have k6 := (hFr.1 _ (by omega)).trans k6_0
      have k7 := (hFr.1 _ (by omega)).trans k7_0
      have k8 := (hFr.1 _ (by omega)).trans k8_0
      have r1 := (hFr.1 _ (by omega)).trans r1_0
      have r3 := (hFr.1 _ (by omega)).trans r3_0
      have rO := (hFr.1 _ (by omega)).trans rO_0
      refine J_iload_n dX6_measureByRounds_2 rfl rfl ?_
      refine J_aload_n dX6_measureByRounds_3 rfl rfl ?_
      refine J_getfield dX6_measureByRounds_4 fX6_21 hO rfl ?_
      refine J_icmp_ge (tgt := 34) dX6_measureByRounds_7 (by decide) (fun h7 => ?_) (fun h7 => ?_)
      · skip
        have h7 := (nI_leI (by omega) (by omega)).mp h7
        exact stage2 _ _ hFr r2 (fun j hj => hrow j (by omega)) _
      · skip
        have h7 := mt (nI_leI (by omega) (by omega)).mpr h7
        refine J_aload_n dX6_measureByRounds_10 rfl rfl ?_
        refine J_getfield dX6_measureByRounds_11 fX6_15 rO rfl ?_
        refine J_iload_n dX6_measureByRounds_14 rfl rfl ?_
        refine J_iload_n dX6_measureByRounds_15 rfl rfl ?_
        refine J_iload_n dX6_measureByRounds_16 rfl rfl ?_
        refine J_icmp_ne (tgt := 24) dX6_measureByRounds_17 (by decide) (fun h17 => ?_) (fun h17 => ?_)
        · skip
          have h17 := mt (nI_eq (by omega) (by omega)).mpr h17
          refine J_sipush (v := nI 1000) dX6_measureByRounds_24 (by decide) ?_
          refine K_iast dX6_measureByRounds_27 r2 (by omega) (by decide) (fun w1 u1 => ?_)
          have hO := (u1.2.1 _ (by omega)).trans hO
          have k1 := (u1.2.1 _ (by omega)).trans k1
          have k2 := (u1.2.1 _ (by omega)).trans k2
          have k3 := (u1.2.1 _ (by omega)).trans k3
          have k4 := (u1.2.1 _ (by omega)).trans k4
          have k5 := (u1.2.1 _ (by omega)).trans k5
          have k6 := (u1.2.1 _ (by omega)).trans k6
          have k7 := (u1.2.1 _ (by omega)).trans k7
          have k8 := (u1.2.1 _ (by omega)).trans k8
          have r1 := (u1.2.1 _ (by omega)).trans r1
          have r2 := u1.1
          have r3 := (u1.2.1 _ (by omega)).trans r3
          have rO := (u1.2.1 _ (by omega)).trans rO
          refine J_iinc (v := nI (k + 1)) dX6_measureByRounds_28 rfl (nI_succ _).symm (by decide) rfl ?_
          refine J_goto (tgt := 2) dX6_measureByRounds_31 (by decide) ?_
          exact ih (k + 1) _ _ (by omega) (by omega) (hFr.up u1 (by omega) (by omega)) r2 (fun j hj => by
            by_cases e : j = k
            · subst e; rw [up_s]; unfold row0; rw [if_neg (by omega)]
            · rw [up_n _ _ e]; exact hrow j (by omega))
        · skip
          have h17 := (nI_eq (by omega) (by omega)).mp h17
          refine J_iconst (v := nI 0) dX6_measureByRounds_20 (by decide) ?_
          refine J_goto (tgt := 27) dX6_measureByRounds_21 (by decide) ?_
          refine K_iast dX6_measureByRounds_27 r2 (by omega) (by decide) (fun w1 u1 => ?_)
          have hO := (u1.2.1 _ (by omega)).trans hO
          have k1 := (u1.2.1 _ (by omega)).trans k1
          have k2 := (u1.2.1 _ (by omega)).trans k2
          have k3 := (u1.2.1 _ (by omega)).trans k3
          have k4 := (u1.2.1 _ (by omega)).trans k4
          have k5 := (u1.2.1 _ (by omega)).trans k5
          have k6 := (u1.2.1 _ (by omega)).trans k6
          have k7 := (u1.2.1 _ (by omega)).trans k7
          have k8 := (u1.2.1 _ (by omega)).trans k8
          have r1 := (u1.2.1 _ (by omega)).trans r1
          have r2 := u1.1
          have r3 := (u1.2.1 _ (by omega)).trans r3
          have rO := (u1.2.1 _ (by omega)).trans rO
          refine J_iinc (v := nI (k + 1)) dX6_measureByRounds_28 rfl (nI_succ _).symm (by decide) rfl ?_
          refine J_goto (tgt := 2) dX6_measureByRounds_31 (by decide) ?_
          exact ih (k + 1) _ _ (by omega) (by omega) (hFr.up u1 (by omega) (by omega)) r2 (fun j hj => by
            by_cases e : j = k
            · subst e; rw [up_s]; unfold row0; rw [if_pos (by omega)]
            · rw [up_n _ _ e]; exact hrow j (by omega))
  refine J_iconst (v := nI 0) dX6_measureByRounds_0 (by decide) ?_
  refine J_istore_n dX6_measureByRounds_1 rfl (by decide) rfl ?_
  exact loop1 (sNb S + 1) 0 w g2 (by omega) (by omega) (Fr.rf _ _ _) r2 (fun j hj => by omega)

end JROUNDS

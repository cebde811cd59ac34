/-! ROUTES: what is found with them -/
section JFOUND
theorem Row.rr {w w' : Wd} {r : Nat} {S : St} {s : Nat} (hR : RepR w r) (h : Row w w' (r + 1) S s) : RepR w' r := by
  obtain ⟨g1, g2, g3, h0, h1, h2, h3⟩ := hR
  obtain ⟨hf, f, hc, -⟩ := h
  exact ⟨f, g2, g3, (hf.1 _ (by omega)).trans h0, hc, (hf.1 _ (by omega)).trans h2, (hf.1 _ (by omega)).trans h3⟩
theorem Row.rr2 {w w' : Wd} {r : Nat} {S : St} {s : Nat} (hR : RepR w r) (h : Row w w' (r + 2) S s) : RepR w' r := by
  obtain ⟨g1, g2, g3, h0, h1, h2, h3⟩ := hR
  obtain ⟨hf, f, hc, -⟩ := h
  exact ⟨g1, f, g3, (hf.1 _ (by omega)).trans h0, (hf.1 _ (by omega)).trans h1, hc, (hf.1 _ (by omega)).trans h3⟩
/-- a finder's answer: only its rows change -/
def RQ (w : Wd) (r : Nat) (x : Int32) : Po := RP (fun v w' => v = some (.int x) ∧ Fr w w' (r + 1) (r + 4) ∧ RepR w' r)
theorem c_X6_cushionNear {w : Wd} {r a s : Nat} {S : St} (hR : RepR w r) (hL : RepC w a S) (hd : r + 4 ≤ a ∨ a + 9 ≤ r) (hs : s < sNb S) : MC 4 mX6_cushionNear 0 0 [.ref r, .ref a, .int (nI s)] w (RQ w r (oI (nrC S s))) := by
  obtain ⟨g1, g2, g3, rO, r1, r2, r3⟩ := id hR
  have hL_ := hL
  obtain ⟨x4, x5, x6, f1, f2, f3, f4, f5, f6, f7, f8, hO, ⟨k1, k2, k3, k4, k5, k6, k7, k8⟩, ⟨bc, ba, bo⟩, hlen, hlk, htr, hwf⟩ := hL_
  have hnb := hwf.nb
  have hnt := hwf.nt
  have hO_0 := hO
  have k1_0 := k1
  have k2_0 := k2
  have k3_0 := k3
  have k4_0 := k4
  have k5_0 := k5
  have k6_0 := k6
  have k7_0 := k7
  have k8_0 := k8
  have r1_0 := r1
  have r2_0 := r2
  have r3_0 := r3
  have rO_0 := rO
  refine MC_j pnX6 rfl rfl rfl (Or.inr (fun E w h => RP_no E w h)) ?_
  show J 4 mX6_cushionNear 0 [some (.ref r), some (.ref a), some (.int (nI s)), none, none, none] [] w 0 0 _
  have start : ∀ w1 f, Fr w w1 (r + 1) (r + 2) → w1.1 (r + 1) = .inl (0, 14, .inl f) → (∀ b, b < sNb S → f b = nI (dF 1000 (dS S s b))) → RepR w1 r → J 4 mX6_cushionNear 6 [some (.ref r), some (.ref a), some (.int (nI s)), none, none, none] [] w1 0 0 (RQ w r (oI (nrC S s))) := by
    intro w1 f hFr1 r1 hrow hRR
    have hO := (hFr1.1 _ (by omega)).trans hO_0
    have k1 := (hFr1.1 _ (by omega)).trans k1_0
    have k2 := (hFr1.1 _ (by omega)).trans k2_0
    have k3 := (hFr1.1 _ (by omega)).trans k3_0
    have k4 := (hFr1.1 _ (by omega)).trans k4_0
    have k5 := (hFr1.1 _ (by omega)).trans k5_0
    have k6 := (hFr1.1 _ (by omega)).trans k6_0
    have k7 := (hFr1.1 _ (by omega)).trans k7_0
    have k8 := (hFr1.1 _ (by omega)).trans k8_0
    have r2 := (hFr1.1 _ (by omega)).trans r2_0
    have r3 := (hFr1.1 _ (by omega)).trans r3_0
    have rO := (hFr1.1 _ (by omega)).trans rO_0
    have loop : ∀ n k, sNb S < n + k → k ≤ sNb S → J 4 mX6_cushionNear 16 [some (.ref r), some (.ref a), some (.int (nI s)), some (.int (oI (amI (am k (cuq S s))))), some (.int (nI (amV 1000 (am k (cuq S s))))), some (.int (nI k))] [] w1 0 0 (RQ w r (oI (nrC S s))) := by
      intro n
      induction n with
      | zero => intros; omega
      | succ n ih =>
        intro k q1 q2
        refine J_iload dX6_cushionNear_16 rfl ?_
        refine J_aload_n dX6_cushionNear_18 rfl rfl ?_
        refine J_getfield dX6_cushionNear_19 fX6_21 hO rfl ?_
        refine J_icmp_ge (tgt := 67) dX6_cushionNear_22 (by decide) (fun h22 => ?_) (fun h22 => ?_)
        · skip
          have h22 := (nI_leI (by omega) (by omega)).mp h22
          have ek : k = sNb S := by omega
          subst ek
          refine J_iload_n dX6_cushionNear_67 rfl rfl ?_
          exact J_ireturn dX6_cushionNear_68 rfl rfl (RP_i ⟨rfl, hFr1.wd (by omega) (by omega), hRR⟩)
        · skip
          have h22 := mt (nI_leI (by omega) (by omega)).mpr h22
          have hdk := dF_le hwf (s := s) (show k < sNb S by omega)
          have hV := cuq_le hwf (s := s) (k := k) (by omega)
          refine J_aload_n dX6_cushionNear_25 rfl rfl ?_
          refine J_getfield dX6_cushionNear_26 fX6_61 hO rfl ?_
          refine J_iload dX6_cushionNear_29 rfl ?_
          refine K_callSN dX6_cushionNear_31 YX8_has kX6_37 (c_has w1 bc (by omega)) rfl rfl (Nat.le_of_ble_eq_true rfl) (by decide) ?_
          refine J_if_eq (tgt := 61) dX6_cushionNear_34 (by decide) (fun h34 => ?_) (fun h34 => ?_)
          · skip
            have e34 : sCu S k = false := b2i_eq.mp h34
            refine J_iinc (v := nI (k + 1)) dX6_cushionNear_61 rfl (nI_succ _).symm (by decide) rfl ?_
            refine J_goto (tgt := 16) dX6_cushionNear_64 (by decide) ?_
            have e : am (k + 1) (cuq S s) = am k (cuq S s) := am_s0 (by unfold cuq; rw [e34]; rfl)
            rw [← e]
            exact ih (k + 1) (by omega) (by omega)
          · skip
            have e34 : sCu S k = true := b2i_ne.mp h34
            refine J_aload_n dX6_cushionNear_37 rfl rfl ?_
            refine J_getfield dX6_cushionNear_38 fX6_9 rO rfl ?_
            refine J_iload dX6_cushionNear_41 rfl ?_
            refine K_iald (v := nI (dF 1000 (dS S s k))) dX6_cushionNear_43 r1 (by omega) (by decide) (hrow k (by omega)) ?_
            refine J_iload dX6_cushionNear_44 rfl ?_
            refine J_icmp_ge (tgt := 61) dX6_cushionNear_46 (by decide) (fun h46 => ?_) (fun h46 => ?_)
            · skip
              have h46 := (nI_leI (by omega) (by omega)).mp h46
              refine J_iinc (v := nI (k + 1)) dX6_cushionNear_61 rfl (nI_succ _).symm (by decide) rfl ?_
              refine J_goto (tgt := 16) dX6_cushionNear_64 (by decide) ?_
              have e : am (k + 1) (cuq S s) = am k (cuq S s) := am_step2 (by unfold cuq; rw [if_pos e34]) (fun c hc => by have := dS_le hwf (show k < sNb S by omega) hc; omega) (by omega)
              rw [← e]
              exact ih (k + 1) (by omega) (by omega)
            · skip
              have h46 := mt (nI_leI (by omega) (by omega)).mpr h46
              refine J_iload dX6_cushionNear_49 rfl ?_
              refine J_istore_n dX6_cushionNear_51 rfl (by decide) rfl ?_
              refine J_aload_n dX6_cushionNear_52 rfl rfl ?_
              refine J_getfield dX6_cushionNear_53 fX6_9 rO rfl ?_
              refine J_iload dX6_cushionNear_56 rfl ?_
              refine K_iald (v := nI (dF 1000 (dS S s k))) dX6_cushionNear_58 r1 (by omega) (by decide) (hrow k (by omega)) ?_
              refine J_istore dX6_cushionNear_59 (by decide) rfl ?_
              refine J_iinc (v := nI (k + 1)) dX6_cushionNear_61 rfl (nI_succ _).symm (by decide) rfl ?_
              refine J_goto (tgt := 16) dX6_cushionNear_64 (by decide) ?_
              have e : am (k + 1) (cuq S s) = some (k, dF 1000 (dS S s k)) := am_step1 (by unfold cuq; rw [if_pos e34]) (by omega) hV
              have g := ih (k + 1) (by omega) (by omega)
              rw [e] at g
              exact g
    refine J_iconst (v := (-1)) dX6_cushionNear_6 (by decide) ?_
    refine J_istore_n dX6_cushionNear_7 rfl (by decide) rfl ?_
    refine J_sipush (v := nI 1000) dX6_cushionNear_8 (by decide) ?_
    refine J_istore dX6_cushionNear_11 (by decide) rfl ?_
    refine J_iconst (v := nI 0) dX6_cushionNear_13 (by decide) ?_
    refine J_istore dX6_cushionNear_14 (by decide) rfl ?_
    exact loop (sNb S + 1) 0 (by omega) (by omega)
  refine J_aload_n dX6_cushionNear_0 rfl rfl ?_
  refine J_aload_n dX6_cushionNear_1 rfl rfl ?_
  refine J_iload_n dX6_cushionNear_2 rfl rfl ?_
  refine K_callVp dX6_cushionNear_3 YX6_measureByNearest kX6_48 (rc_of rO rfl) (c_X6_measureByNearest hR hL hd hs) rfl rfl (Nat.le_of_ble_eq_true rfl) (by decide) (fun v3 w3 q3 => ?_)
  obtain ⟨rfl, hrow3⟩ := q3
  have hRR := Row.rr hR hrow3
  obtain ⟨hF3, f3, hc3, hr3⟩ := hrow3
  exact start _ _ hF3 hc3 hr3 hRR

theorem c_X6_nextFor {w : Wd} {r a t : Nat} {S : St} (hR : RepR w r) (hL : RepC w a S) (hd : r + 4 ≤ a ∨ a + 9 ≤ r) (ht : t < sNt S) : MC 4 mX6_nextFor 0 0 [.ref r, .ref a, .int (nI t)] w (RQ w r (oI (nx S t))) := by
  obtain ⟨g1, g2, g3, rO, r1, r2, r3⟩ := id hR
  have hL_ := hL
  obtain ⟨x4, x5, x6, f1, f2, f3, f4, f5, f6, f7, f8, hO, ⟨k1, k2, k3, k4, k5, k6, k7, k8⟩, ⟨bc, ba, bo⟩, hlen, hlk, htr, hwf⟩ := hL_
  have hnb := hwf.nb
  have hnt := hwf.nt
  have hO_0 := hO
  have k1_0 := k1
  have k2_0 := k2
  have k3_0 := k3
  have k4_0 := k4
  have k5_0 := k5
  have k6_0 := k6
  have k7_0 := k7
  have k8_0 := k8
  have r1_0 := r1
  have r2_0 := r2
  have r3_0 := r3
  have rO_0 := rO
  refine MC_j pnX6 rfl rfl rfl (Or.inr (fun E w h => RP_no E w h)) ?_
  show J 4 mX6_nextFor 0 [some (.ref r), some (.ref a), some (.int (nI t)), none, none, none, none, none] [] w 0 0 _
  have hpt := hwf.2.2.2.2.1 t ht
  have start : ∀ w1 f g, sGo S t = some g → ¬ g = sPl S t → Fr w w1 (r + 1) (r + 2) → w1.1 (r + 1) = .inl (0, 14, .inl f) → (∀ b, b < sNb S → f b = nI (dF 1000 (dS S g b))) → RepR w1 r → J 4 mX6_nextFor 34 [some (.ref r), some (.ref a), some (.int (nI t)), some (.int (nI g)), some (.int (nI (sPl S t))), none, none, none] [] w1 0 0 (RQ w r (oI (nx S t))) := by
    intro w1 f g hg hne hFr1 r1 hrow hRR
    have hO := (hFr1.1 _ (by omega)).trans hO_0
    have k1 := (hFr1.1 _ (by omega)).trans k1_0
    have k2 := (hFr1.1 _ (by omega)).trans k2_0
    have k3 := (hFr1.1 _ (by omega)).trans k3_0
    have k4 := (hFr1.1 _ (by omega)).trans k4_0
    have k5 := (hFr1.1 _ (by omega)).trans k5_0
    have k6 := (hFr1.1 _ (by omega)).trans k6_0
    have k7 := (hFr1.1 _ (by omega)).trans k7_0
    have k8 := (hFr1.1 _ (by omega)).trans k8_0
    have r2 := (hFr1.1 _ (by omega)).trans r2_0
    have r3 := (hFr1.1 _ (by omega)).trans r3_0
    have rO := (hFr1.1 _ (by omega)).trans rO_0
    have loop : ∀ n k, sNb S < n + k → k ≤ sNb S → J 4 mX6_nextFor 45 [some (.ref r), some (.ref a), some (.int (nI t)), some (.int (nI g)), some (.int (nI (sPl S t))), some (.int (oI (amI (am k (nxq S (sPl S t) g))))), some (.int (nI (amV 1000 (am k (nxq S (sPl S t) g))))), some (.int (nI k))] [] w1 0 0 (RQ w r (oI (nx S t))) := by
      intro n
      induction n with
      | zero => intros; omega
      | succ n ih =>
        intro k q1 q2
        refine J_iload dX6_nextFor_45 rfl ?_
        refine J_aload_n dX6_nextFor_47 rfl rfl ?_
        refine J_getfield dX6_nextFor_48 fX6_21 hO rfl ?_
        refine J_icmp_ge (tgt := 96) dX6_nextFor_51 (by decide) (fun h51 => ?_) (fun h51 => ?_)
        · skip
          have h51 := (nI_leI (by omega) (by omega)).mp h51
          have ek : k = sNb S := by omega
          subst ek
          refine J_iload dX6_nextFor_96 rfl ?_
          exact J_ireturn dX6_nextFor_98 rfl rfl (RP_i ⟨by rw [nx_am hwf hg hne], hFr1.wd (by omega) (by omega), hRR⟩)
        · skip
          have h51 := mt (nI_leI (by omega) (by omega)).mpr h51
          have hdk := dF_le hwf (s := g) (show k < sNb S by omega)
          have hV := nxq_le hwf (p := sPl S t) (g := g) (k := k) (by omega)
          refine J_aload_n dX6_nextFor_54 rfl rfl ?_
          refine J_iload dX6_nextFor_55 rfl ?_
          refine J_iload dX6_nextFor_57 rfl ?_
          refine K_callV dX6_nextFor_59 YX4_isJoined kX6_45 (rc_of hO rfl) (c_X4_isJoined (hL.fr hFr1 (by omega)) (show sPl S t < 14 by omega) (by omega)) rfl rfl (Nat.le_of_ble_eq_true rfl) (by decide) ?_
          refine J_if_eq (tgt := 90) dX6_nextFor_62 (by decide) (fun h62 => ?_) (fun h62 => ?_)
          · skip
            have e62 : sLk S (sPl S t) k = false := b2i_eq.mp h62
            refine J_iinc (v := nI (k + 1)) dX6_nextFor_90 rfl (nI_succ _).symm (by decide) rfl ?_
            refine J_goto (tgt := 45) dX6_nextFor_93 (by decide) ?_
            have e : am (k + 1) (nxq S (sPl S t) g) = am k (nxq S (sPl S t) g) := am_s0 (by unfold nxq; rw [e62]; rfl)
            rw [← e]
            exact ih (k + 1) (by omega) (by omega)
          · skip
            have e62 : sLk S (sPl S t) k = true := b2i_ne.mp h62
            refine J_aload_n dX6_nextFor_65 rfl rfl ?_
            refine J_getfield dX6_nextFor_66 fX6_9 rO rfl ?_
            refine J_iload dX6_nextFor_69 rfl ?_
            refine K_iald (v := nI (dF 1000 (dS S g k))) dX6_nextFor_71 r1 (by omega) (by decide) (hrow k (by omega)) ?_
            refine J_iload dX6_nextFor_72 rfl ?_
            refine J_icmp_ge (tgt := 90) dX6_nextFor_74 (by decide) (fun h74 => ?_) (fun h74 => ?_)
            · skip
              have h74 := (nI_leI (by omega) (by omega)).mp h74
              refine J_iinc (v := nI (k + 1)) dX6_nextFor_90 rfl (nI_succ _).symm (by decide) rfl ?_
              refine J_goto (tgt := 45) dX6_nextFor_93 (by decide) ?_
              have e : am (k + 1) (nxq S (sPl S t) g) = am k (nxq S (sPl S t) g) := am_step2 (by unfold nxq; rw [if_pos e62]) (fun c hc => by have := dS_le hwf (show k < sNb S by omega) hc; omega) (by omega)
              rw [← e]
              exact ih (k + 1) (by omega) (by omega)
            · skip
              have h74 := mt (nI_leI (by omega) (by omega)).mpr h74
              refine J_iload dX6_nextFor_77 rfl ?_
              refine J_istore dX6_nextFor_79 (by decide) rfl ?_
              refine J_aload_n dX6_nextFor_81 rfl rfl ?_
              refine J_getfield dX6_nextFor_82 fX6_9 rO rfl ?_
              refine J_iload dX6_nextFor_85 rfl ?_
              refine K_iald (v := nI (dF 1000 (dS S g k))) dX6_nextFor_87 r1 (by omega) (by decide) (hrow k (by omega)) ?_
              refine J_istore dX6_nextFor_88 (by decide) rfl ?_
              refine J_iinc (v := nI (k + 1)) dX6_nextFor_90 rfl (nI_succ _).symm (by decide) rfl ?_
              refine J_goto (tgt := 45) dX6_nextFor_93 (by decide) ?_
              have e : am (k + 1) (nxq S (sPl S t) g) = some (k, dF 1000 (dS S g k)) := am_step1 (by unfold nxq; rw [if_pos e62]) (by omega) hV
              have g := ih (k + 1) (by omega) (by omega)
              rw [e] at g
              exact g
    refine J_iconst (v := (-1)) dX6_nextFor_34 (by decide) ?_
    refine J_istore dX6_nextFor_35 (by decide) rfl ?_
    refine J_sipush (v := nI 1000) dX6_nextFor_37 (by decide) ?_
    refine J_istore dX6_nextFor_40 (by decide) rfl ?_
    refine J_iconst (v := nI 0) dX6_nextFor_42 (by decide) ?_
    refine J_istore dX6_nextFor_43 (by decide) rfl ?_
    exact loop (sNb S + 1) 0 (by omega) (by omega)
  refine J_aload_n dX6_nextFor_0 rfl rfl ?_
  refine J_getfield dX6_nextFor_1 fX6_55 hO rfl ?_
  refine J_iload_n dX6_nextFor_4 rfl rfl ?_
  refine K_iald (v := oI (sGo S t)) dX6_nextFor_5 k6 (by omega) (by decide) (htr _ (by omega)).2.2.2.1 ?_
  refine J_istore_n dX6_nextFor_6 rfl (by decide) rfl ?_
  refine J_aload_n dX6_nextFor_7 rfl rfl ?_
  refine J_getfield dX6_nextFor_8 fX6_58 hO rfl ?_
  refine J_iload_n dX6_nextFor_11 rfl rfl ?_
  have q12a := hwf.2.2.2.2.1 t (by omega)
  refine K_iald (v := nI (sPl S t)) dX6_nextFor_12 k3 (by omega) (by decide) (htr _ (by omega)).1 ?_
  refine J_istore dX6_nextFor_13 (by decide) rfl ?_
  refine J_iload_n dX6_nextFor_15 rfl rfl ?_
  refine J_iconst (v := (-1)) dX6_nextFor_16 (by decide) ?_
  refine J_icmp_eq (tgt := 26) dX6_nextFor_17 (by decide) (fun h17 => ?_) (fun h17 => ?_)
  · skip
    have e17 : sGo S t = none := (oI_m1 (sGo_b hwf (by omega))).mp h17
    refine J_iconst (v := (-1)) dX6_nextFor_26 (by decide) ?_
    exact J_ireturn dX6_nextFor_27 rfl rfl (RP_i ⟨by rw [show nx S t = none from by unfold nx; rw [e17]]; rfl, Fr.rf _ _ _, hR⟩)
  · skip
    obtain ⟨k17, e17⟩ : ∃ k_, sGo S t = some k_ := by
      cases q : sGo S t with
      | none => exact absurd ((oI_m1 (sGo_b hwf (by omega))).mpr q) h17
      | some k_ => exact ⟨k_, rfl⟩
    have hgb := hwf.2.2.2.2.2.1 t ht _ e17
    refine J_iload_n dX6_nextFor_20 rfl rfl ?_
    refine J_iload dX6_nextFor_21 rfl ?_
    refine J_icmp_ne (tgt := 28) dX6_nextFor_23 (by decide) (fun h23 => ?_) (fun h23 => ?_)
    · skip
      have hne : ¬ k17 = sPl S t := fun e => h23 (by rw [e17]; exact congrArg nI e)
      rw [e17]
      refine J_aload_n dX6_nextFor_28 rfl rfl ?_
      refine J_aload_n dX6_nextFor_29 rfl rfl ?_
      refine J_iload_n dX6_nextFor_30 rfl rfl ?_
      refine K_callVp dX6_nextFor_31 YX6_measureByNearest kX6_48 (rc_of rO rfl) (c_X6_measureByNearest hR hL hd (show k17 < sNb S from hgb)) rfl rfl (Nat.le_of_ble_eq_true rfl) (by decide) (fun v31 w31 q31 => ?_)
      obtain ⟨rfl, hrow3⟩ := q31
      have hRR := Row.rr hR hrow3
      obtain ⟨hF3, f3, hc3, hr3⟩ := hrow3
      exact start _ _ _ e17 hne hF3 hc3 hr3 hRR
    · skip
      have heq : k17 = sPl S t := by
        rw [e17] at h23
        exact nI_inj (by omega) (by omega) h23
      refine J_iconst (v := (-1)) dX6_nextFor_26 (by decide) ?_
      exact J_ireturn dX6_nextFor_27 rfl rfl (RP_i ⟨by rw [show nx S t = none from by unfold nx; rw [e17]; simp [heq]]; rfl, Fr.rf _ _ _, hR⟩)

theorem c_X6_distancesAgree {w : Wd} {r a : Nat} {S : St} (hR : RepR w r) (hL : RepC w a S) (hd : r + 4 ≤ a ∨ a + 9 ≤ r) : MC 6 mX6_distancesAgree 0 0 [.ref r, .ref a] w (RQ w r 1) := by
  obtain ⟨g1, g2, g3, rO, r1, r2, r3⟩ := id hR
  have hL_ := hL
  obtain ⟨x4, x5, x6, f1, f2, f3, f4, f5, f6, f7, f8, hO, ⟨k1, k2, k3, k4, k5, k6, k7, k8⟩, ⟨bc, ba, bo⟩, hlen, hlk, htr, hwf⟩ := hL_
  have hnb := hwf.nb
  have hnt := hwf.nt
  have hO_0 := hO
  have k1_0 := k1
  have k2_0 := k2
  have k3_0 := k3
  have k4_0 := k4
  have k5_0 := k5
  have k6_0 := k6
  have k7_0 := k7
  have k8_0 := k8
  have r1_0 := r1
  have r2_0 := r2
  have r3_0 := r3
  have rO_0 := rO
  refine MC_j pnX6 rfl rfl rfl (Or.inr (fun E w h => RP_no E w h)) ?_
  show J 6 mX6_distancesAgree 0 [some (.ref r), some (.ref a), none, none] [] w 0 0 _
  have loop : ∀ n s w1 o3, sNb S < n + s → s ≤ sNb S → Fr w w1 (r + 1) (r + 4) → RepR w1 r → J 6 mX6_distancesAgree 2 [some (.ref r), some (.ref a), some (.int (nI s)), o3] [] w1 0 0 (RQ w r 1) := by
    intro n
    induction n with
    | zero => intros; omega
    | succ n ih =>
      intro s w1 o3 q1 q2 hFr hRR
      have hO := (hFr.1 _ (by omega)).trans hO_0
      have k1 := (hFr.1 _ (by omega)).trans k1_0
      have k2 := (hFr.1 _ (by omega)).trans k2_0
      have k3 := (hFr.1 _ (by omega)).trans k3_0
      have k4 := (hFr.1 _ (by omega)).trans k4_0
      have k5 := (hFr.1 _ (by omega)).trans k5_0
      have k6 := (hFr.1 _ (by omega)).trans k6_0
      have k7 := (hFr.1 _ (by omega)).trans k7_0
      have k8 := (hFr.1 _ (by omega)).trans k8_0
      have inner : ∀ w1 f1' f2' o3, s < sNb S → Fr w w1 (r + 1) (r + 4) → RepR w1 r → w1.1 (r + 1) = .inl (0, 14, .inl f1') → w1.1 (r + 2) = .inl (0, 14, .inl f2') → (∀ b, b < sNb S → f1' b = nI (dF 1000 (dS S s b))) → (∀ b, b < sNb S → f2' b = nI (dF 1000 (dS S s b))) → J 6 mX6_distancesAgree 22 [some (.ref r), some (.ref a), some (.int (nI s)), o3] [] w1 0 0 (RQ w r 1) := by
        intro w1 f1' f2' o3 hsb hFr hRR r1 r2 hr1 hr2
        have hO := (hFr.1 _ (by omega)).trans hO_0
        have k1 := (hFr.1 _ (by omega)).trans k1_0
        have k2 := (hFr.1 _ (by omega)).trans k2_0
        have k3 := (hFr.1 _ (by omega)).trans k3_0
        have k4 := (hFr.1 _ (by omega)).trans k4_0
        have k5 := (hFr.1 _ (by omega)).trans k5_0
        have k6 := (hFr.1 _ (by omega)).trans k6_0
        have k7 := (hFr.1 _ (by omega)).trans k7_0
        have k8 := (hFr.1 _ (by omega)).trans k8_0
        have rO := (hFr.1 _ (by omega)).trans rO_0
        have loopj : ∀ n j, sNb S < n + j → j ≤ sNb S → J 6 mX6_distancesAgree 24 [some (.ref r), some (.ref a), some (.int (nI s)), some (.int (nI j))] [] w1 0 0 (RQ w r 1) := by
          intro n
          induction n with
          | zero => intros; omega
          | succ n ihj =>
            intro j q3 q4
            refine J_iload_n dX6_distancesAgree_24 rfl rfl ?_
            refine J_aload_n dX6_distancesAgree_25 rfl rfl ?_
            refine J_getfield dX6_distancesAgree_26 fX6_21 hO rfl ?_
            refine J_icmp_ge (tgt := 55) dX6_distancesAgree_29 (by decide) (fun h29 => ?_) (fun h29 => ?_)
            · skip
              have h29 := (nI_leI (by omega) (by omega)).mp h29
              refine J_iinc (v := nI (s + 1)) dX6_distancesAgree_55 rfl (nI_succ _).symm (by decide) rfl ?_
              refine J_goto (tgt := 2) dX6_distancesAgree_58 (by decide) ?_
              exact ih (s + 1) _ _ (by omega) (by omega) hFr hRR
            · skip
              have h29 := mt (nI_leI (by omega) (by omega)).mpr h29
              refine J_aload_n dX6_distancesAgree_32 rfl rfl ?_
              refine J_getfield dX6_distancesAgree_33 fX6_9 rO rfl ?_
              refine J_iload_n dX6_distancesAgree_36 rfl rfl ?_
              refine K_iald (v := nI (dF 1000 (dS S s j))) dX6_distancesAgree_37 r1 (by omega) (by decide) (hr1 j (by omega)) ?_
              refine J_aload_n dX6_distancesAgree_38 rfl rfl ?_
              refine J_getfield dX6_distancesAgree_39 fX6_15 rO rfl ?_
              refine J_iload_n dX6_distancesAgree_42 rfl rfl ?_
              refine K_iald (v := nI (dF 1000 (dS S s j))) dX6_distancesAgree_43 r2 (by omega) (by decide) (hr2 j (by omega)) ?_
              refine J_icmp_eq (tgt := 49) dX6_distancesAgree_44 (by decide) (fun h44 => ?_) (fun h44 => absurd rfl h44)
              refine J_iinc (v := nI (j + 1)) dX6_distancesAgree_49 rfl (nI_succ _).symm (by decide) rfl ?_
              refine J_goto (tgt := 24) dX6_distancesAgree_52 (by decide) ?_
              exact ihj (j + 1) (by omega) (by omega)
        refine J_iconst (v := nI 0) dX6_distancesAgree_22 (by decide) ?_
        refine J_istore_n dX6_distancesAgree_23 rfl (by decide) rfl ?_
        exact loopj (sNb S + 1) 0 (by omega) (by omega)
      obtain ⟨z1, z2, z3, rO, r1, r2, r3⟩ := id hRR
      refine J_iload_n dX6_distancesAgree_2 rfl rfl ?_
      refine J_aload_n dX6_distancesAgree_3 rfl rfl ?_
      refine J_getfield dX6_distancesAgree_4 fX6_21 hO rfl ?_
      refine J_icmp_ge (tgt := 61) dX6_distancesAgree_7 (by decide) (fun h7 => ?_) (fun h7 => ?_)
      · skip
        have h7 := (nI_leI (by omega) (by omega)).mp h7
        refine J_iconst (v := nI 1) dX6_distancesAgree_61 (by decide) ?_
        exact J_ireturn dX6_distancesAgree_62 rfl rfl (RP_i ⟨rfl, hFr, hRR⟩)
      · skip
        have h7 := mt (nI_leI (by omega) (by omega)).mpr h7
        refine J_aload_n dX6_distancesAgree_10 rfl rfl ?_
        refine J_aload_n dX6_distancesAgree_11 rfl rfl ?_
        refine J_iload_n dX6_distancesAgree_12 rfl rfl ?_
        refine K_callVp dX6_distancesAgree_13 YX6_measureByNearest kX6_48 (rc_of rO rfl) (c_X6_measureByNearest hRR (hL.fr hFr (by omega)) hd (show s < sNb S by omega)) rfl rfl (Nat.le_of_ble_eq_true rfl) (by decide) (fun v13 w13 q13 => ?_)
        obtain ⟨rfl, hrow3⟩ := q13
        have hRR := Row.rr hRR hrow3
        obtain ⟨hF13, f13, hc13, hr13⟩ := hrow3
        have hFr := hFr.tr hF13 (by omega) (by omega)
        obtain ⟨z1, z2, z3, rO, r1, r2, r3⟩ := id hRR
        have hO := (hFr.1 _ (by omega)).trans hO_0
        have k1 := (hFr.1 _ (by omega)).trans k1_0
        have k2 := (hFr.1 _ (by omega)).trans k2_0
        have k3 := (hFr.1 _ (by omega)).trans k3_0
        have k4 := (hFr.1 _ (by omega)).trans k4_0
        have k5 := (hFr.1 _ (by omega)).trans k5_0
        have k6 := (hFr.1 _ (by omega)).trans k6_0
        have k7 := (hFr.1 _ (by omega)).trans k7_0
        have k8 := (hFr.1 _ (by omega)).trans k8_0
        refine J_aload_n dX6_distancesAgree_16 rfl rfl ?_
        refine J_aload_n dX6_distancesAgree_17 rfl rfl ?_
        refine J_iload_n dX6_distancesAgree_18 rfl rfl ?_
        refine K_callVp dX6_distancesAgree_19 YX6_measureByRounds kX6_52 (rc_of rO rfl) (c_X6_measureByRounds hRR (hL.fr hFr (by omega)) hd (show s < sNb S by omega)) rfl rfl (Nat.le_of_ble_eq_true rfl) (by decide) (fun v19 w19 q19 => ?_)
        obtain ⟨rfl, hrow3⟩ := q19
        have hRR := Row.rr2 hRR hrow3
        obtain ⟨hF19, f19, hc19, hr19⟩ := hrow3
        have hFr := hFr.tr hF19 (by omega) (by omega)
        exact inner _ _ _ _ (by omega) hFr hRR ((hF19.1 _ (by omega)).trans hc13) hc19 hr13 hr19
  refine J_iconst (v := nI 0) dX6_distancesAgree_0 (by decide) ?_
  refine J_istore_n dX6_distancesAgree_1 rfl (by decide) rfl ?_
  exact loop (sNb S + 1) 0 w none (by omega) (by omega) (Fr.rf _ _ _) hR

end JFOUND

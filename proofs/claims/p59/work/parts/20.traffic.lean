/-! TRAFFIC -/
section JTRAFFIC
/-- the traffic's rows -/
def RepT (w : Wd) (u : Nat) : Prop := ∃ (h1 h2 : Nat → Int32), w.1 u = .inr (7, [.ref (u + 1), .ref (u + 5), .ref (u + 6)]) ∧ RepR w (u + 1) ∧ w.1 (u + 5) = .inl (0, 6, .inl h1) ∧ w.1 (u + 6) = .inl (0, 6, .inl h2)
theorem RepT.fr {w w' : Wd} {u lo hi : Nat} (h : RepT w u) (k : Fr w w' lo hi) (g : u + 7 ≤ lo ∨ hi ≤ u) : RepT w' u := by
  obtain ⟨h1, h2, a0, a1, a2, a3⟩ := h
  exact ⟨h1, h2, (k.1 _ (by omega)).trans a0, a1.fr k (by omega), (k.1 _ (by omega)).trans a2, (k.1 _ (by omega)).trans a3⟩
theorem RepT.rt {w w' : Wd} {u : Nat} (h : RepT w u) (k : Fr w w' (u + 2) (u + 5)) (g : RepR w' (u + 1)) : RepT w' u := by
  obtain ⟨h1, h2, a0, a1, a2, a3⟩ := h
  exact ⟨h1, h2, (k.1 _ (by omega)).trans a0, g, (k.1 _ (by omega)).trans a2, (k.1 _ (by omega)).trans a3⟩
/-- only the layout at a and the rows of the traffic at u change -/
def F2 (w w' : Wd) (a u : Nat) : Prop := (∀ b : Nat, (b < a ∨ a + 9 ≤ b) → (b < u + 2 ∨ u + 7 ≤ b) → w'.1 b = w.1 b) ∧ w'.2.1 = w.2.1
theorem F2.rf (w : Wd) (a u : Nat) : F2 w w a u := ⟨fun _ _ _ => rfl, rfl⟩
theorem F2.tr {w w1 w2 : Wd} {a u : Nat} (h : F2 w w1 a u) (g : F2 w1 w2 a u) : F2 w w2 a u := ⟨fun b h1 h2 => (g.1 b h1 h2).trans (h.1 b h1 h2), g.2.trans h.2⟩
theorem F2.fr {w w1 w2 : Wd} {a u lo hi : Nat} (h : F2 w w1 a u) (g : Fr w1 w2 lo hi) (k : (a ≤ lo ∧ hi ≤ a + 9) ∨ (u + 2 ≤ lo ∧ hi ≤ u + 7)) : F2 w w2 a u := ⟨fun b h1 h2 => (g.1 b (by omega)).trans (h.1 b h1 h2), g.2.trans h.2⟩
theorem F2.up {w w1 w2 : Wd} {a u c : Nat} {x : Ce} (h : F2 w w1 a u) (g : Up w1 w2 c x) (k : (a ≤ c ∧ c < a + 9) ∨ (u + 2 ≤ c ∧ c < u + 7)) : F2 w w2 a u := ⟨fun b h1 h2 => (g.2.1 b (by omega)).trans (h.1 b h1 h2), (congrArg Prod.fst g.2.2).trans h.2⟩
/-- a traffic's answer about a layout that stays as it is -/
def TQ (w : Wd) (u : Nat) (x : Int32) : Po := RP (fun v w' => v = some (.int x) ∧ Fr w w' (u + 2) (u + 7) ∧ RepT w' u)
def TB5 (w : Wd) (u : Nat) (x : Int32) : Po := RP (fun v w' => v = some (.int x) ∧ Fr w w' (u + 2) (u + 5) ∧ RepT w' u)
theorem RepT.up5 {w w' : Wd} {u : Nat} {f : Nat → Int32} (h : RepT w u) (k : Up w w' (u + 5) (.inl (0, 6, .inl f))) : RepT w' u := by
  obtain ⟨h1, h2, a0, a1, a2, a3⟩ := h
  exact ⟨f, h2, (k.2.1 _ (by omega)).trans a0, a1.fr ((Fr.rf w (u + 5) (u + 6)).up k (by omega) (by omega)) (by omega), k.1, (k.2.1 _ (by omega)).trans a3⟩
theorem RepT.up6 {w w' : Wd} {u : Nat} {f : Nat → Int32} (h : RepT w u) (k : Up w w' (u + 6) (.inl (0, 6, .inl f))) : RepT w' u := by
  obtain ⟨h1, h2, a0, a1, a2, a3⟩ := h
  exact ⟨h1, f, (k.2.1 _ (by omega)).trans a0, a1.fr ((Fr.rf w (u + 6) (u + 7)).up k (by omega) (by omega)) (by omega), (k.2.1 _ (by omega)).trans a2, k.1⟩
theorem c_X7_blockerOf {w : Wd} {u a t : Nat} {S : St} (hT : RepT w u) (hL : RepC w a S) (hd : u + 7 ≤ a ∨ a + 9 ≤ u) (ht : t < sNt S) : MC 5 mX7_blockerOf 0 0 [.ref u, .ref a, .int (nI t)] w (TB5 w u (oI (bk S t))) := by
  obtain ⟨h1, h2, tO, tR, t5, t6⟩ := id hT
  obtain ⟨g1, g2, g3, rO, r1, r2, r3⟩ := id tR
  have hL_ := hL
  obtain ⟨x4, x5, x6, f1, f2, f3, f4, f5, f6, f7, f8, hO, ⟨k1, k2, k3, k4, k5, k6, k7, k8⟩, ⟨bc, ba, bo⟩, hlen, hlk, htr, hwf⟩ := hL_
  have hnb := hwf.nb
  have hnt := hwf.nt
  refine MC_j pnX7 rfl rfl rfl (Or.inr (fun E w h => RP_no E w h)) ?_
  show J 5 mX7_blockerOf 0 [some (.ref u), some (.ref a), some (.int (nI t)), none] [] w 0 0 _
  refine J_aload_n dX7_blockerOf_0 rfl rfl ?_
  refine J_getfield dX7_blockerOf_1 fX7_71 hO rfl ?_
  refine J_iload_n dX7_blockerOf_4 rfl rfl ?_
  refine K_callSN dX7_blockerOf_5 YX8_has kX7_38 (c_has w bo (by omega)) rfl rfl (Nat.le_of_ble_eq_true rfl) (by decide) ?_
  refine J_if_eq (tgt := 13) dX7_blockerOf_8 (by decide) (fun h8 => ?_) (fun h8 => ?_)
  · skip
    have e8 : sOf S t = false := b2i_eq.mp h8
    refine J_aload_n dX7_blockerOf_13 rfl rfl ?_
    refine J_getfield dX7_blockerOf_14 fX7_12 tO rfl ?_
    refine J_aload_n dX7_blockerOf_17 rfl rfl ?_
    refine J_iload_n dX7_blockerOf_18 rfl rfl ?_
    refine K_callVp dX7_blockerOf_19 YX6_nextFor kX7_77 (rc_of rO rfl) (c_X6_nextFor tR hL (by omega) ht) rfl rfl (Nat.le_of_ble_eq_true rfl) (by decide) (fun v19 w19 q19 => ?_)
    obtain ⟨rfl, hF19, hR19⟩ := q19
    have hO := (hF19.1 _ (by omega)).trans hO
    have k1 := (hF19.1 _ (by omega)).trans k1
    have k2 := (hF19.1 _ (by omega)).trans k2
    have k3 := (hF19.1 _ (by omega)).trans k3
    have k4 := (hF19.1 _ (by omega)).trans k4
    have k5 := (hF19.1 _ (by omega)).trans k5
    have k6 := (hF19.1 _ (by omega)).trans k6
    have k7 := (hF19.1 _ (by omega)).trans k7
    have k8 := (hF19.1 _ (by omega)).trans k8
    have rO := (hF19.1 _ (by omega)).trans rO
    have t5 := (hF19.1 _ (by omega)).trans t5
    have t6 := (hF19.1 _ (by omega)).trans t6
    have tO := (hF19.1 _ (by omega)).trans tO
    have hT2 := hT.rt hF19 hR19
    refine J_istore_n dX7_blockerOf_22 rfl (by decide) rfl ?_
    refine J_iload_n dX7_blockerOf_23 rfl rfl ?_
    refine J_iconst (v := (-1)) dX7_blockerOf_24 (by decide) ?_
    refine J_icmp_ne (tgt := 32) dX7_blockerOf_25 (by decide) (fun h25 => ?_) (fun h25 => ?_)
    · skip
      obtain ⟨k25, e25⟩ : ∃ k_, nx S t = some k_ := by
        cases q : nx S t with
        | none => exact absurd ((oI_m1 (nx_b hwf)).mpr q) h25
        | some k_ => exact ⟨k_, rfl⟩
      refine J_aload_n dX7_blockerOf_32 rfl rfl ?_
      have hb := (nx_lt e25).1
      refine J_iload_n dX7_blockerOf_33 rfl rfl ?_
      rw [e25]
      refine K_callV dX7_blockerOf_34 YX4_trainAt kX7_94 (rc_of hO rfl) (c_X4_trainAt (hL.fr hF19 (by omega)) (show k25 < 2 ^ 31 by omega)) rfl rfl (Nat.le_of_ble_eq_true rfl) (by decide) ?_
      exact J_ireturn dX7_blockerOf_37 rfl rfl (RP_i ⟨by rw [show bk S t = tAt S k25 from by unfold bk; rw [if_neg (by rw [e8]; decide), e25]], hF19, hT2⟩)
    · skip
      have e25 : nx S t = none := (oI_m1 (nx_b hwf)).mp h25
      refine J_iconst (v := (-1)) dX7_blockerOf_28 (by decide) ?_
      refine J_goto (tgt := 37) dX7_blockerOf_29 (by decide) ?_
      exact J_ireturn dX7_blockerOf_37 rfl rfl (RP_i ⟨by rw [show bk S t = none from by unfold bk; rw [if_neg (by rw [e8]; decide), e25]]; rfl, hF19, hT2⟩)
  · skip
    have e8 : sOf S t = true := b2i_ne.mp h8
    refine J_iconst (v := (-1)) dX7_blockerOf_11 (by decide) ?_
    exact J_ireturn dX7_blockerOf_12 rfl rfl (RP_i ⟨by rw [show bk S t = none from by unfold bk; rw [if_pos e8]]; rfl, Fr.rf _ _ _, hT⟩)

theorem c_X7_leadsBack {w : Wd} {u t n : Nat} {B : Nat → Option Nat} {h1 : Nat → Int32} (tO : w.1 u = .inr (7, [.ref (u + 1), .ref (u + 5), .ref (u + 6)])) (t5 : w.1 (u + 5) = .inl (0, 6, .inl h1)) (hn : n ≤ 6) (ht : t < n) (hB : ∀ t u, B t = some u → u < n) (hrow : ∀ t, t < n → h1 t = oI (B t)) : MC 2 mX7_leadsBack 0 0 [.ref u, .int (nI t), .int (nI n)] w (RI (.int (b2i (cycB B t))) w) := by
  refine MC_j pnX7 rfl rfl rfl (Or.inr (fun E w h => by cases h.1)) ?_
  show J 2 mX7_leadsBack 0 [some (.ref u), some (.int (nI t)), some (.int (nI n)), none, none] [] w 0 0 _
  have loop : ∀ m k c, n < m + k → k ≤ n → c < n → it B k t = some c → (∀ j, 1 ≤ j → j ≤ k → it B j t ≠ some t) → J 2 mX7_leadsBack 5 [some (.ref u), some (.int (nI t)), some (.int (nI n)), some (.int (nI c)), some (.int (nI k))] [] w 0 0 (RI (.int (b2i (cycB B t))) w) := by
    intro m
    induction m with
    | zero => intros; omega
    | succ m ih =>
      intro k c q1 q2 hc hit hno
      refine J_iload dX7_leadsBack_5 rfl ?_
      refine J_iload_n dX7_leadsBack_7 rfl rfl ?_
      refine J_icmp_ge (tgt := 38) dX7_leadsBack_8 (by decide) (fun h8 => ?_) (fun h8 => ?_)
      · skip
        have h8 := (nI_leI (by omega) (by omega)).mp h8
        
        refine J_iconst (v := nI 0) dX7_leadsBack_38 (by decide) ?_
        exact J_ireturn dX7_leadsBack_39 rfl rfl ⟨by rw [show cycB B t = false from cyc_no hB ht (fun j j1 j2 => hno j j1 (by omega))]; rfl, rfl⟩
      · skip
        have h8 := mt (nI_leI (by omega) (by omega)).mpr h8
        
        refine J_aload_n dX7_leadsBack_11 rfl rfl ?_
        refine J_getfield dX7_leadsBack_12 fX7_18 tO rfl ?_
        refine J_iload_n dX7_leadsBack_15 rfl rfl ?_
        refine K_iald (v := oI (B c)) dX7_leadsBack_16 t5 (by omega) (by decide) (hrow c hc) ?_
        refine J_istore_n dX7_leadsBack_17 rfl (by decide) rfl ?_
        refine J_iload_n dX7_leadsBack_18 rfl rfl ?_
        refine J_iload_n dX7_leadsBack_19 rfl rfl ?_
        refine J_icmp_ne (tgt := 25) dX7_leadsBack_20 (by decide) (fun h20 => ?_) (fun h20 => ?_)
        · skip
          have h20 : B c ≠ some t := fun e => h20 (by rw [e]; rfl)
          refine J_iload_n dX7_leadsBack_25 rfl rfl ?_
          refine J_iconst (v := (-1)) dX7_leadsBack_26 (by decide) ?_
          refine J_icmp_ne (tgt := 32) dX7_leadsBack_27 (by decide) (fun h27 => ?_) (fun h27 => ?_)
          · skip
            obtain ⟨k27, e27⟩ : ∃ k_, B c = some k_ := by
              cases q : B c with
              | none => exact absurd ((oI_m1 (fun k hk => by have := hB c k hk; omega)).mpr q) h27
              | some k_ => exact ⟨k_, rfl⟩
            rw [e27]
            have hk27 := hB c k27 e27
            refine J_iinc (v := nI (k + 1)) dX7_leadsBack_32 rfl (nI_succ _).symm (by decide) rfl ?_
            refine J_goto (tgt := 5) dX7_leadsBack_35 (by decide) ?_
            exact ih (k + 1) k27 (by omega) (by omega) (by omega) (by show (it B k t).bind B = some k27; rw [hit]; exact e27) (fun j j1 j2 => by
              by_cases q : j = k + 1
              · subst q; show (it B k t).bind B ≠ some t; rw [hit]; exact h20
              · exact hno j j1 (by omega))
          · skip
            have e27 : B c = none := (oI_m1 (fun k hk => by have := hB c k hk; omega)).mp h27
            refine J_iconst (v := nI 0) dX7_leadsBack_30 (by decide) ?_
            exact J_ireturn dX7_leadsBack_31 rfl rfl ⟨by rw [show cycB B t = false from cyc_dead (k := k + 1) (fun j j1 j2 => by
  by_cases q : j = k + 1
  · subst q; show (it B k t).bind B ≠ some t; rw [hit]; exact h20
  · exact hno j j1 (by omega)) (by show (it B k t).bind B = none; rw [hit]; exact e27)]; rfl, rfl⟩
        · skip
          have h20 : B c = some t := by
            cases q : B c with
            | none => rw [q] at h20; exact absurd h20.symm (nI_ne_m1 (by omega))
            | some y => rw [q] at h20; have := hB c y q; rw [nI_inj (a := y) (b := t) (by omega) (by omega) h20]
          refine J_iconst (v := nI 1) dX7_leadsBack_23 (by decide) ?_
          exact J_ireturn dX7_leadsBack_24 rfl rfl ⟨by rw [show cycB B t = true from cycB_t.mpr ⟨k + 1, by omega, by show (it B k t).bind B = some t; rw [hit]; exact h20⟩]; rfl, rfl⟩
  refine J_iload_n dX7_leadsBack_0 rfl rfl ?_
  refine J_istore_n dX7_leadsBack_1 rfl (by decide) rfl ?_
  refine J_iconst (v := nI 0) dX7_leadsBack_2 (by decide) ?_
  refine J_istore dX7_leadsBack_3 (by decide) rfl ?_
  exact loop (n + 1) 0 t (by omega) (by omega) ht rfl (fun j j1 j2 => by omega)

theorem c_X7_stuckByFollowing {w : Wd} {u a : Nat} {S : St} (hT : RepT w u) (hL : RepC w a S) (hd : u + 7 ≤ a ∨ a + 9 ≤ u) : MC 6 mX7_stuckByFollowing 0 0 [.ref u, .ref a] w (TQ w u (nI (stN S))) := by
  obtain ⟨h1, h2, tO, tR, t5, t6⟩ := id hT
  obtain ⟨g1, g2, g3, rO, r1, r2, r3⟩ := id tR
  have hL_ := hL
  obtain ⟨x4, x5, x6, f1, f2, f3, f4, f5, f6, f7, f8, hO, ⟨k1, k2, k3, k4, k5, k6, k7, k8⟩, ⟨bc, ba, bo⟩, hlen, hlk, htr, hwf⟩ := hL_
  have hnb := hwf.nb
  have hnt := hwf.nt
  have hO_0 := hO
  have k1_0 := k1
  have k2_0 := k2
  have k3_0 := k3
  have k4_0 := k4
  have k5_0 := k5
  have k6_0 := k6
  have k7_0 := k7
  have k8_0 := k8
  have t5_0 := t5
  have tO_0 := tO
  refine MC_j pnX7 rfl rfl rfl (Or.inr (fun E w h => RP_no E w h)) ?_
  show J 6 mX7_stuckByFollowing 0 [some (.ref u), some (.ref a), none, none] [] w 0 0 _
  have stage2 : ∀ o2 w1 f, Fr w w1 (u + 2) (u + 7) → RepT w1 u → w1.1 (u + 5) = .inl (0, 6, .inl f) → (∀ t, t < sNt S → f t = oI (bk S t)) → J 6 mX7_stuckByFollowing 28 [some (.ref u), some (.ref a), o2, none] [] w1 0 0 (TQ w u (nI (stN S))) := by
    intro o2 w1 f hFr hT1 t5 hrow
    have hO := (hFr.1 _ (by omega)).trans hO_0
    have k1 := (hFr.1 _ (by omega)).trans k1_0
    have k2 := (hFr.1 _ (by omega)).trans k2_0
    have k3 := (hFr.1 _ (by omega)).trans k3_0
    have k4 := (hFr.1 _ (by omega)).trans k4_0
    have k5 := (hFr.1 _ (by omega)).trans k5_0
    have k6 := (hFr.1 _ (by omega)).trans k6_0
    have k7 := (hFr.1 _ (by omega)).trans k7_0
    have k8 := (hFr.1 _ (by omega)).trans k8_0
    have tO := (hFr.1 _ (by omega)).trans tO_0
    have loop : ∀ n k, sNt S < n + k → k ≤ sNt S → J 6 mX7_stuckByFollowing 32 [some (.ref u), some (.ref a), some (.int (nI (cnt k (cycB (bk S))))), some (.int (nI k))] [] w1 0 0 (TQ w u (nI (stN S))) := by
      intro n
      induction n with
      | zero => intros; omega
      | succ n ih =>
        intro k q1 q2
        refine J_iload_n dX7_stuckByFollowing_32 rfl rfl ?_
        refine J_aload_n dX7_stuckByFollowing_33 rfl rfl ?_
        refine J_getfield dX7_stuckByFollowing_34 fX7_58 hO rfl ?_
        refine J_icmp_ge (tgt := 61) dX7_stuckByFollowing_37 (by decide) (fun h37 => ?_) (fun h37 => ?_)
        · skip
          have h37 := (nI_leI (by omega) (by omega)).mp h37
          have ek : k = sNt S := by omega
          subst ek
          refine J_iload_n dX7_stuckByFollowing_61 rfl rfl ?_
          exact J_ireturn dX7_stuckByFollowing_62 rfl rfl (RP_i ⟨rfl, hFr, hT1⟩)
        · skip
          have h37 := mt (nI_leI (by omega) (by omega)).mpr h37
          refine J_aload_n dX7_stuckByFollowing_40 rfl rfl ?_
          refine J_iload_n dX7_stuckByFollowing_41 rfl rfl ?_
          refine J_aload_n dX7_stuckByFollowing_42 rfl rfl ?_
          refine J_getfield dX7_stuckByFollowing_43 fX7_58 hO rfl ?_
          refine K_callV dX7_stuckByFollowing_46 YX7_leadsBack kX7_100 (rc_of tO rfl) (c_X7_leadsBack tO t5 hnt (by omega) (fun t u e => bk_lt e) hrow) rfl rfl (Nat.le_of_ble_eq_true rfl) (by decide) ?_
          refine J_if_eq (tgt := 55) dX7_stuckByFollowing_49 (by decide) (fun h49 => ?_) (fun h49 => ?_)
          · skip
            have e49 : cycB (bk S) k = false := b2i_eq.mp h49
            refine J_iinc (v := nI (k + 1)) dX7_stuckByFollowing_55 rfl (nI_succ _).symm (by decide) rfl ?_
            refine J_goto (tgt := 32) dX7_stuckByFollowing_58 (by decide) ?_
            have ec : cnt (k + 1) (cycB (bk S)) = cnt k (cycB (bk S)) := by
              show cnt k (cycB (bk S)) + (if cycB (bk S) k = true then 1 else 0) = _
              rw [e49]
              rfl
            have g := ih (k + 1) (by omega) (by omega)
            rw [ec] at g
            exact g
          · skip
            have e49 : cycB (bk S) k = true := b2i_ne.mp h49
            refine J_iinc (v := nI (cnt k (cycB (bk S)) + 1)) dX7_stuckByFollowing_52 rfl (nI_succ _).symm (by decide) rfl ?_
            refine J_iinc (v := nI (k + 1)) dX7_stuckByFollowing_55 rfl (nI_succ _).symm (by decide) rfl ?_
            refine J_goto (tgt := 32) dX7_stuckByFollowing_58 (by decide) ?_
            have ec : cnt (k + 1) (cycB (bk S)) = cnt k (cycB (bk S)) + 1 := by
              show cnt k (cycB (bk S)) + (if cycB (bk S) k = true then 1 else 0) = _
              rw [e49]
              rfl
            have g := ih (k + 1) (by omega) (by omega)
            rw [ec] at g
            exact g
    refine J_iconst (v := nI 0) dX7_stuckByFollowing_28 (by decide) ?_
    refine J_istore_n dX7_stuckByFollowing_29 rfl (by decide) rfl ?_
    refine J_iconst (v := nI 0) dX7_stuckByFollowing_30 (by decide) ?_
    refine J_istore_n dX7_stuckByFollowing_31 rfl (by decide) rfl ?_
    exact loop (sNt S + 1) 0 (by omega) (by omega)
  have loop1 : ∀ n k w1 f, sNt S < n + k → k ≤ sNt S → Fr w w1 (u + 2) (u + 7) → RepT w1 u → w1.1 (u + 5) = .inl (0, 6, .inl f) → (∀ t, t < k → f t = oI (bk S t)) → J 6 mX7_stuckByFollowing 2 [some (.ref u), some (.ref a), some (.int (nI k)), none] [] w1 0 0 (TQ w u (nI (stN S))) := by
    intro n
    induction n with
    | zero => intros; omega
    | succ n ih =>
      intro k w1 f q1 q2 hFr hT1 t5 hrow
      have hO := (hFr.1 _ (by omega)).trans hO_0
      have k1 := (hFr.1 _ (by omega)).trans k1_0
      have k2 := (hFr.1 _ (by omega)).trans k2_0
      have k3 := (hFr.1 _ (by omega)).trans k3_0
      have k4 := (hFr.1 _ (by omega)).trans k4_0
      have k5 := (hFr.1 _ (by omega)).trans k5_0
      have k6 := (hFr.1 _ (by omega)).trans k6_0
      have k7 := (hFr.1 _ (by omega)).trans k7_0
      have k8 := (hFr.1 _ (by omega)).trans k8_0
      have tO := (hFr.1 _ (by omega)).trans tO_0
      refine J_iload_n dX7_stuckByFollowing_2 rfl rfl ?_
      refine J_aload_n dX7_stuckByFollowing_3 rfl rfl ?_
      refine J_getfield dX7_stuckByFollowing_4 fX7_58 hO rfl ?_
      refine J_icmp_ge (tgt := 28) dX7_stuckByFollowing_7 (by decide) (fun h7 => ?_) (fun h7 => ?_)
      · skip
        have h7 := (nI_leI (by omega) (by omega)).mp h7
        exact stage2 _ _ _ hFr hT1 t5 (fun t ht => hrow t (by omega))
      · skip
        have h7 := mt (nI_leI (by omega) (by omega)).mpr h7
        refine J_aload_n dX7_stuckByFollowing_10 rfl rfl ?_
        refine J_getfield dX7_stuckByFollowing_11 fX7_18 tO rfl ?_
        refine J_iload_n dX7_stuckByFollowing_14 rfl rfl ?_
        refine J_aload_n dX7_stuckByFollowing_15 rfl rfl ?_
        refine J_aload_n dX7_stuckByFollowing_16 rfl rfl ?_
        refine J_iload_n dX7_stuckByFollowing_17 rfl rfl ?_
        refine K_callVp dX7_stuckByFollowing_18 YX7_blockerOf kX7_97 (rc_of tO rfl) (c_X7_blockerOf hT1 (hL.fr hFr (by omega)) hd (show k < sNt S by omega)) rfl rfl (Nat.le_of_ble_eq_true rfl) (by decide) (fun v18 w18 q18 => ?_)
        obtain ⟨rfl, hF18, hT18⟩ := q18
        have hO := (hF18.1 _ (by omega)).trans hO
        have k1 := (hF18.1 _ (by omega)).trans k1
        have k2 := (hF18.1 _ (by omega)).trans k2
        have k3 := (hF18.1 _ (by omega)).trans k3
        have k4 := (hF18.1 _ (by omega)).trans k4
        have k5 := (hF18.1 _ (by omega)).trans k5
        have k6 := (hF18.1 _ (by omega)).trans k6
        have k7 := (hF18.1 _ (by omega)).trans k7
        have k8 := (hF18.1 _ (by omega)).trans k8
        have t5 := (hF18.1 _ (by omega)).trans t5
        have tO := (hF18.1 _ (by omega)).trans tO
        refine K_iast dX7_stuckByFollowing_21 t5 (by omega) (by decide) (fun w1 u1 => ?_)
        have hO := (u1.2.1 _ (by omega)).trans hO
        have k1 := (u1.2.1 _ (by omega)).trans k1
        have k2 := (u1.2.1 _ (by omega)).trans k2
        have k3 := (u1.2.1 _ (by omega)).trans k3
        have k4 := (u1.2.1 _ (by omega)).trans k4
        have k5 := (u1.2.1 _ (by omega)).trans k5
        have k6 := (u1.2.1 _ (by omega)).trans k6
        have k7 := (u1.2.1 _ (by omega)).trans k7
        have k8 := (u1.2.1 _ (by omega)).trans k8
        have t5 := u1.1
        have tO := (u1.2.1 _ (by omega)).trans tO
        refine J_iinc (v := nI (k + 1)) dX7_stuckByFollowing_22 rfl (nI_succ _).symm (by decide) rfl ?_
        refine J_goto (tgt := 2) dX7_stuckByFollowing_25 (by decide) ?_
        exact ih (k + 1) _ _ (by omega) (by omega) ((hFr.tr hF18 (by omega) (by omega)).up u1 (by omega) (by omega)) (hT18.up5 u1) t5 (fun t ht => by
          by_cases e : t = k
          · subst e; rw [up_s]
          · rw [up_n _ _ e]; exact hrow t (by omega))
  refine J_iconst (v := nI 0) dX7_stuckByFollowing_0 (by decide) ?_
  refine J_istore_n dX7_stuckByFollowing_1 rfl (by decide) rfl ?_
  exact loop1 (sNt S + 1) 0 w h1 (by omega) (by omega) (Fr.rf _ _ _) hT t5 (fun t ht => by omega)

theorem c_X7_stuckByTable {w : Wd} {u a : Nat} {S : St} (hT : RepT w u) (hL : RepC w a S) (hd : u + 7 ≤ a ∨ a + 9 ≤ u) : MC 6 mX7_stuckByTable 0 0 [.ref u, .ref a] w (TQ w u (nI (stN S))) := by
  obtain ⟨h1, h2, tO, tR, t5, t6⟩ := id hT
  obtain ⟨g1, g2, g3, rO, r1, r2, r3⟩ := id tR
  have hL_ := hL
  obtain ⟨x4, x5, x6, f1, f2, f3, f4, f5, f6, f7, f8, hO, ⟨k1, k2, k3, k4, k5, k6, k7, k8⟩, ⟨bc, ba, bo⟩, hlen, hlk, htr, hwf⟩ := hL_
  have hnb := hwf.nb
  have hnt := hwf.nt
  have hO_0 := hO
  have k1_0 := k1
  have k2_0 := k2
  have k3_0 := k3
  have k4_0 := k4
  have k5_0 := k5
  have k6_0 := k6
  have k7_0 := k7
  have k8_0 := k8
  have t6_0 := t6
  have tO_0 := tO
  refine MC_j pnX7 rfl rfl rfl (Or.inr (fun E w h => RP_no E w h)) ?_
  show J 6 mX7_stuckByTable 0 [some (.ref u), some (.ref a), none, none] [] w 0 0 _
  have stage3 : ∀ o2 o3 w1 f T, Fr w w1 (u + 2) (u + 7) → RepT w1 u → w1.1 (u + 6) = .inl (0, 6, .inl f) → (∀ t, t < sNt S → bits (f t) (T t)) → TB (bk S) (sNt S) (sNt S) T → J 6 mX7_stuckByTable 101 [some (.ref u), some (.ref a), o2, o3] [] w1 0 0 (TQ w u (nI (stN S))) := by
    intro o2 o3 w1 f T hFr hT1 t6 hrow hTB
    have hO := (hFr.1 _ (by omega)).trans hO_0
    have k1 := (hFr.1 _ (by omega)).trans k1_0
    have k2 := (hFr.1 _ (by omega)).trans k2_0
    have k3 := (hFr.1 _ (by omega)).trans k3_0
    have k4 := (hFr.1 _ (by omega)).trans k4_0
    have k5 := (hFr.1 _ (by omega)).trans k5_0
    have k6 := (hFr.1 _ (by omega)).trans k6_0
    have k7 := (hFr.1 _ (by omega)).trans k7_0
    have k8 := (hFr.1 _ (by omega)).trans k8_0
    have tO := (hFr.1 _ (by omega)).trans tO_0
    have loop : ∀ n k, sNt S < n + k → k ≤ sNt S → J 6 mX7_stuckByTable 105 [some (.ref u), some (.ref a), some (.int (nI (cnt k (cycB (bk S))))), some (.int (nI k))] [] w1 0 0 (TQ w u (nI (stN S))) := by
      intro n
      induction n with
      | zero => intros; omega
      | succ n ih =>
        intro k q1 q2
        refine J_iload_n dX7_stuckByTable_105 rfl rfl ?_
        refine J_aload_n dX7_stuckByTable_106 rfl rfl ?_
        refine J_getfield dX7_stuckByTable_107 fX7_58 hO rfl ?_
        refine J_icmp_ge (tgt := 135) dX7_stuckByTable_110 (by decide) (fun h110 => ?_) (fun h110 => ?_)
        · skip
          have h110 := (nI_leI (by omega) (by omega)).mp h110
          have ek : k = sNt S := by omega
          subst ek
          refine J_iload_n dX7_stuckByTable_135 rfl rfl ?_
          exact J_ireturn dX7_stuckByTable_136 rfl rfl (RP_i ⟨rfl, hFr, hT1⟩)
        · skip
          have h110 := mt (nI_leI (by omega) (by omega)).mpr h110
          refine J_aload_n dX7_stuckByTable_113 rfl rfl ?_
          refine J_getfield dX7_stuckByTable_114 fX7_22 tO rfl ?_
          refine J_iload_n dX7_stuckByTable_117 rfl rfl ?_
          refine K_iald dX7_stuckByTable_118 t6 (by omega) (by decide) rfl ?_
          refine J_iload_n dX7_stuckByTable_119 rfl rfl ?_
          refine K_callSN dX7_stuckByTable_120 YX8_has kX7_38 (c_has w1 (hrow k (by omega)) (by omega)) rfl rfl (Nat.le_of_ble_eq_true rfl) (by decide) ?_
          refine J_if_eq (tgt := 129) dX7_stuckByTable_123 (by decide) (fun h123 => ?_) (fun h123 => ?_)
          · skip
            have e123 : T k k = false := b2i_eq.mp h123
            have e49 := (tb_end (fun t u e => bk_lt e) hTB (show k < sNt S by omega)).symm.trans e123
            refine J_iinc (v := nI (k + 1)) dX7_stuckByTable_129 rfl (nI_succ _).symm (by decide) rfl ?_
            refine J_goto (tgt := 105) dX7_stuckByTable_132 (by decide) ?_
            have ec : cnt (k + 1) (cycB (bk S)) = cnt k (cycB (bk S)) := by
              show cnt k (cycB (bk S)) + (if cycB (bk S) k = true then 1 else 0) = _
              rw [e49]
              rfl
            have g := ih (k + 1) (by omega) (by omega)
            rw [ec] at g
            exact g
          · skip
            have e123 : T k k = true := b2i_ne.mp h123
            have e49 := (tb_end (fun t u e => bk_lt e) hTB (show k < sNt S by omega)).symm.trans e123
            refine J_iinc (v := nI (cnt k (cycB (bk S)) + 1)) dX7_stuckByTable_126 rfl (nI_succ _).symm (by decide) rfl ?_
            refine J_iinc (v := nI (k + 1)) dX7_stuckByTable_129 rfl (nI_succ _).symm (by decide) rfl ?_
            refine J_goto (tgt := 105) dX7_stuckByTable_132 (by decide) ?_
            have ec : cnt (k + 1) (cycB (bk S)) = cnt k (cycB (bk S)) + 1 := by
              show cnt k (cycB (bk S)) + (if cycB (bk S) k = true then 1 else 0) = _
              rw [e49]
              rfl
            have g := ih (k + 1) (by omega) (by omega)
            rw [ec] at g
            exact g
    refine J_iconst (v := nI 0) dX7_stuckByTable_101 (by decide) ?_
    refine J_istore_n dX7_stuckByTable_102 rfl (by decide) rfl ?_
    refine J_iconst (v := nI 0) dX7_stuckByTable_103 (by decide) ?_
    refine J_istore_n dX7_stuckByTable_104 rfl (by decide) rfl ?_
    exact loop (sNt S + 1) 0 (by omega) (by omega)
  have loop2 : ∀ n o w1 f T o3, sNt S < n + o → o ≤ sNt S → Fr w w1 (u + 2) (u + 7) → RepT w1 u → w1.1 (u + 6) = .inl (0, 6, .inl f) → (∀ t, t < sNt S → bits (f t) (T t)) → TB (bk S) (sNt S) o T → J 6 mX7_stuckByTable 43 [some (.ref u), some (.ref a), some (.int (nI o)), o3] [] w1 0 0 (TQ w u (nI (stN S))) := by
    intro n
    induction n with
    | zero => intros; omega
    | succ n ih =>
      intro o w1 f T o3 q1 q2 hFr hT1 t6 hrow hTB
      have hO := (hFr.1 _ (by omega)).trans hO_0
      have k1 := (hFr.1 _ (by omega)).trans k1_0
      have k2 := (hFr.1 _ (by omega)).trans k2_0
      have k3 := (hFr.1 _ (by omega)).trans k3_0
      have k4 := (hFr.1 _ (by omega)).trans k4_0
      have k5 := (hFr.1 _ (by omega)).trans k5_0
      have k6 := (hFr.1 _ (by omega)).trans k6_0
      have k7 := (hFr.1 _ (by omega)).trans k7_0
      have k8 := (hFr.1 _ (by omega)).trans k8_0
      have tO := (hFr.1 _ (by omega)).trans tO_0
      have loopj : o < sNt S → ∀ m j w1 f, sNt S < m + j → j ≤ sNt S → Fr w w1 (u + 2) (u + 7) → RepT w1 u → w1.1 (u + 6) = .inl (0, 6, .inl f) → (∀ t, t < sNt S → bits (f t) (fun x => if t < j then tbS T o t x else T t x)) → J 6 mX7_stuckByTable 53 [some (.ref u), some (.ref a), some (.int (nI o)), some (.int (nI j))] [] w1 0 0 (TQ w u (nI (stN S))) := by
        intro hob m
        induction m with
        | zero => intros; omega
        | succ m ihj =>
          intro j w1 f q3 q4 hFr hT1 t6 hrow
          have hO := (hFr.1 _ (by omega)).trans hO_0
          have k1 := (hFr.1 _ (by omega)).trans k1_0
          have k2 := (hFr.1 _ (by omega)).trans k2_0
          have k3 := (hFr.1 _ (by omega)).trans k3_0
          have k4 := (hFr.1 _ (by omega)).trans k4_0
          have k5 := (hFr.1 _ (by omega)).trans k5_0
          have k6 := (hFr.1 _ (by omega)).trans k6_0
          have k7 := (hFr.1 _ (by omega)).trans k7_0
          have k8 := (hFr.1 _ (by omega)).trans k8_0
          have tO := (hFr.1 _ (by omega)).trans tO_0
          refine J_iload_n dX7_stuckByTable_53 rfl rfl ?_
          refine J_aload_n dX7_stuckByTable_54 rfl rfl ?_
          refine J_getfield dX7_stuckByTable_55 fX7_58 hO rfl ?_
          refine J_icmp_ge (tgt := 95) dX7_stuckByTable_58 (by decide) (fun h58 => ?_) (fun h58 => ?_)
          · skip
            have h58 := (nI_leI (by omega) (by omega)).mp h58
            refine J_iinc (v := nI (o + 1)) dX7_stuckByTable_95 rfl (nI_succ _).symm (by decide) rfl ?_
            refine J_goto (tgt := 43) dX7_stuckByTable_98 (by decide) ?_
            exact ih (o + 1) _ _ _ _ (by omega) (by omega) hFr hT1 t6 (fun t ht => bits_to (hrow t ht) (fun x _ => if_pos (by omega))) (tb_s (by omega) hTB)
          · skip
            have h58 := mt (nI_leI (by omega) (by omega)).mpr h58
            refine J_aload_n dX7_stuckByTable_61 rfl rfl ?_
            refine J_getfield dX7_stuckByTable_62 fX7_22 tO rfl ?_
            refine J_iload_n dX7_stuckByTable_65 rfl rfl ?_
            refine K_iald dX7_stuckByTable_66 t6 (by omega) (by decide) rfl ?_
            refine J_iload_n dX7_stuckByTable_67 rfl rfl ?_
            refine K_callSN dX7_stuckByTable_68 YX8_has kX7_38 (c_has w1 (hrow j (by omega)) (by omega)) rfl rfl (Nat.le_of_ble_eq_true rfl) (by decide) ?_
            refine J_if_eq (tgt := 89) dX7_stuckByTable_71 (by decide) (fun h71 => ?_) (fun h71 => ?_)
            · skip
              have e71 : (fun x => if j < j then tbS T o j x else T j x) o = false := b2i_eq.mp h71
              refine J_iinc (v := nI (j + 1)) dX7_stuckByTable_89 rfl (nI_succ _).symm (by decide) rfl ?_
              refine J_goto (tgt := 53) dX7_stuckByTable_92 (by decide) ?_
              exact ihj (j + 1) _ _ (by omega) (by omega) hFr hT1 t6 (fun t ht => by
                refine bits_to (hrow t ht) (fun x _ => ?_)
                by_cases e : t = j
                · subst e
                  have e71 : T t o = false := by simpa using e71
                  rw [if_neg (by omega), if_pos (by omega)]
                  show _ = (T t x || (T t o && T o x))
                  rw [e71, Bool.false_and, Bool.or_false]
                · by_cases e2 : t < j
                  · rw [if_pos e2, if_pos (by omega)]
                  · rw [if_neg e2, if_neg (by omega)])
            · skip
              have e71 : (fun x => if j < j then tbS T o j x else T j x) o = true := b2i_ne.mp h71
              refine J_aload_n dX7_stuckByTable_74 rfl rfl ?_
              refine J_getfield dX7_stuckByTable_75 fX7_22 tO rfl ?_
              refine J_iload_n dX7_stuckByTable_78 rfl rfl ?_
              refine J_dup2 dX7_stuckByTable_79 rfl rfl ?_
              refine K_iald dX7_stuckByTable_80 t6 (by omega) (by decide) rfl ?_
              refine J_aload_n dX7_stuckByTable_81 rfl rfl ?_
              refine J_getfield dX7_stuckByTable_82 fX7_22 tO rfl ?_
              refine J_iload_n dX7_stuckByTable_85 rfl rfl ?_
              refine K_iald dX7_stuckByTable_86 t6 (by omega) (by decide) rfl ?_
              refine K_ior (v := f j ||| f o) dX7_stuckByTable_87 rfl ?_
              refine K_iast dX7_stuckByTable_88 t6 (by omega) (by decide) (fun w1 u1 => ?_)
              have hO := (u1.2.1 _ (by omega)).trans hO
              have k1 := (u1.2.1 _ (by omega)).trans k1
              have k2 := (u1.2.1 _ (by omega)).trans k2
              have k3 := (u1.2.1 _ (by omega)).trans k3
              have k4 := (u1.2.1 _ (by omega)).trans k4
              have k5 := (u1.2.1 _ (by omega)).trans k5
              have k6 := (u1.2.1 _ (by omega)).trans k6
              have k7 := (u1.2.1 _ (by omega)).trans k7
              have k8 := (u1.2.1 _ (by omega)).trans k8
              have t6 := u1.1
              have tO := (u1.2.1 _ (by omega)).trans tO
              refine J_iinc (v := nI (j + 1)) dX7_stuckByTable_89 rfl (nI_succ _).symm (by decide) rfl ?_
              refine J_goto (tgt := 53) dX7_stuckByTable_92 (by decide) ?_
              exact ihj (j + 1) _ _ (by omega) (by omega) (hFr.up u1 (by omega) (by omega)) (hT1.up6 u1) t6 (fun t ht => by
                by_cases e : t = j
                · subst e
                  rw [up_s]
                  refine bits_to (bits_or (hrow t ht) (hrow o (by omega))) (fun x _ => ?_)
                  have e71 : T t o = true := by simpa using e71
                  have ho : (if o < t then tbS T o o x else T o x) = T o x := by
                    split
                    · exact tbS_o
                    · rfl
                  show ((if t < t then tbS T o t x else T t x) || (if o < t then tbS T o o x else T o x)) = _
                  rw [ho, if_neg (by omega), if_pos (by omega)]
                  show _ = (T t x || (T t o && T o x))
                  rw [e71, Bool.true_and]
                · rw [up_n _ _ e]
                  refine bits_to (hrow t ht) (fun x _ => ?_)
                  by_cases e2 : t < j
                  · rw [if_pos e2, if_pos (by omega)]
                  · rw [if_neg e2, if_neg (by omega)])
      refine J_iload_n dX7_stuckByTable_43 rfl rfl ?_
      refine J_aload_n dX7_stuckByTable_44 rfl rfl ?_
      refine J_getfield dX7_stuckByTable_45 fX7_58 hO rfl ?_
      refine J_icmp_ge (tgt := 101) dX7_stuckByTable_48 (by decide) (fun h48 => ?_) (fun h48 => ?_)
      · skip
        have h48 := (nI_leI (by omega) (by omega)).mp h48
        have eo : o = sNt S := by omega
        exact stage3 _ _ _ _ T hFr hT1 t6 hrow (eo ▸ hTB)
      · skip
        have h48 := mt (nI_leI (by omega) (by omega)).mpr h48
        refine J_iconst (v := nI 0) dX7_stuckByTable_51 (by decide) ?_
        refine J_istore_n dX7_stuckByTable_52 rfl (by decide) rfl ?_
        exact loopj (by omega) (sNt S + 1) 0 w1 f (by omega) (by omega) hFr hT1 t6 (fun t ht => bits_to (hrow t ht) (fun x _ => (if_neg (by omega)).symm))
  have stage2 : ∀ o2 o3 w1 f, Fr w w1 (u + 2) (u + 7) → RepT w1 u → w1.1 (u + 6) = .inl (0, 6, .inl f) → (∀ t, t < sNt S → bits (f t) (fun x => bk S t == some x)) → J 6 mX7_stuckByTable 41 [some (.ref u), some (.ref a), o2, o3] [] w1 0 0 (TQ w u (nI (stN S))) := by
    intro o2 o3 w1 f hFr hT1 t6 hrow
    have hO := (hFr.1 _ (by omega)).trans hO_0
    have k1 := (hFr.1 _ (by omega)).trans k1_0
    have k2 := (hFr.1 _ (by omega)).trans k2_0
    have k3 := (hFr.1 _ (by omega)).trans k3_0
    have k4 := (hFr.1 _ (by omega)).trans k4_0
    have k5 := (hFr.1 _ (by omega)).trans k5_0
    have k6 := (hFr.1 _ (by omega)).trans k6_0
    have k7 := (hFr.1 _ (by omega)).trans k7_0
    have k8 := (hFr.1 _ (by omega)).trans k8_0
    have tO := (hFr.1 _ (by omega)).trans tO_0
    refine J_iconst (v := nI 0) dX7_stuckByTable_41 (by decide) ?_
    refine J_istore_n dX7_stuckByTable_42 rfl (by decide) rfl ?_
    exact loop2 (sNt S + 1) 0 w1 f _ _ (by omega) (by omega) hFr hT1 t6 hrow tb_0
  have loop1 : ∀ n k w1 f o3, sNt S < n + k → k ≤ sNt S → Fr w w1 (u + 2) (u + 7) → RepT w1 u → w1.1 (u + 6) = .inl (0, 6, .inl f) → (∀ t, t < k → bits (f t) (fun x => bk S t == some x)) → J 6 mX7_stuckByTable 2 [some (.ref u), some (.ref a), some (.int (nI k)), o3] [] w1 0 0 (TQ w u (nI (stN S))) := by
    intro n
    induction n with
    | zero => intros; omega
    | succ n ih =>
      intro k w1 f o3 q1 q2 hFr hT1 t6 hrow
      have hO := (hFr.1 _ (by omega)).trans hO_0
      have k1 := (hFr.1 _ (by omega)).trans k1_0
      have k2 := (hFr.1 _ (by omega)).trans k2_0
      have k3 := (hFr.1 _ (by omega)).trans k3_0
      have k4 := (hFr.1 _ (by omega)).trans k4_0
      have k5 := (hFr.1 _ (by omega)).trans k5_0
      have k6 := (hFr.1 _ (by omega)).trans k6_0
      have k7 := (hFr.1 _ (by omega)).trans k7_0
      have k8 := (hFr.1 _ (by omega)).trans k8_0
      have tO := (hFr.1 _ (by omega)).trans tO_0
      refine J_iload_n dX7_stuckByTable_2 rfl rfl ?_
      refine J_aload_n dX7_stuckByTable_3 rfl rfl ?_
      refine J_getfield dX7_stuckByTable_4 fX7_58 hO rfl ?_
      refine J_icmp_ge (tgt := 41) dX7_stuckByTable_7 (by decide) (fun h7 => ?_) (fun h7 => ?_)
      · skip
        have h7 := (nI_leI (by omega) (by omega)).mp h7
        exact stage2 _ _ _ _ hFr hT1 t6 (fun t ht => hrow t (by omega))
      · skip
        have h7 := mt (nI_leI (by omega) (by omega)).mpr h7
        refine J_aload_n dX7_stuckByTable_10 rfl rfl ?_
        refine J_aload_n dX7_stuckByTable_11 rfl rfl ?_
        refine J_iload_n dX7_stuckByTable_12 rfl rfl ?_
        refine K_callVp dX7_stuckByTable_13 YX7_blockerOf kX7_97 (rc_of tO rfl) (c_X7_blockerOf hT1 (hL.fr hFr (by omega)) hd (show k < sNt S by omega)) rfl rfl (Nat.le_of_ble_eq_true rfl) (by decide) (fun v13 w13 q13 => ?_)
        obtain ⟨rfl, hF12, hT12⟩ := q13
        have hO := (hF12.1 _ (by omega)).trans hO
        have k1 := (hF12.1 _ (by omega)).trans k1
        have k2 := (hF12.1 _ (by omega)).trans k2
        have k3 := (hF12.1 _ (by omega)).trans k3
        have k4 := (hF12.1 _ (by omega)).trans k4
        have k5 := (hF12.1 _ (by omega)).trans k5
        have k6 := (hF12.1 _ (by omega)).trans k6
        have k7 := (hF12.1 _ (by omega)).trans k7
        have k8 := (hF12.1 _ (by omega)).trans k8
        have t6 := (hF12.1 _ (by omega)).trans t6
        have tO := (hF12.1 _ (by omega)).trans tO
        refine J_istore_n dX7_stuckByTable_16 rfl (by decide) rfl ?_
        refine J_aload_n dX7_stuckByTable_17 rfl rfl ?_
        refine J_getfield dX7_stuckByTable_18 fX7_22 tO rfl ?_
        refine J_iload_n dX7_stuckByTable_21 rfl rfl ?_
        refine J_iload_n dX7_stuckByTable_22 rfl rfl ?_
        refine J_iconst (v := (-1)) dX7_stuckByTable_23 (by decide) ?_
        refine J_icmp_ne (tgt := 31) dX7_stuckByTable_24 (by decide) (fun h24 => ?_) (fun h24 => ?_)
        · skip
          obtain ⟨k24, e24⟩ : ∃ k_, bk S k = some k_ := by
            cases q : bk S k with
            | none => exact absurd ((oI_m1 (bk_b hwf)).mpr q) h24
            | some k_ => exact ⟨k_, rfl⟩
          have hk24 := bk_lt e24
          rw [e24]
          refine J_iconst (v := nI 1) dX7_stuckByTable_31 (by decide) ?_
          refine J_iload_n dX7_stuckByTable_32 rfl rfl ?_
          refine K_ishl (v := ((1 : Int32) <<< (nI k24 &&& 31))) dX7_stuckByTable_33 rfl ?_
          refine K_iast dX7_stuckByTable_34 t6 (by omega) (by decide) (fun w1 u1 => ?_)
          have hO := (u1.2.1 _ (by omega)).trans hO
          have k1 := (u1.2.1 _ (by omega)).trans k1
          have k2 := (u1.2.1 _ (by omega)).trans k2
          have k3 := (u1.2.1 _ (by omega)).trans k3
          have k4 := (u1.2.1 _ (by omega)).trans k4
          have k5 := (u1.2.1 _ (by omega)).trans k5
          have k6 := (u1.2.1 _ (by omega)).trans k6
          have k7 := (u1.2.1 _ (by omega)).trans k7
          have k8 := (u1.2.1 _ (by omega)).trans k8
          have t6 := u1.1
          have tO := (u1.2.1 _ (by omega)).trans tO
          refine J_iinc (v := nI (k + 1)) dX7_stuckByTable_35 rfl (nI_succ _).symm (by decide) rfl ?_
          refine J_goto (tgt := 2) dX7_stuckByTable_38 (by decide) ?_
          exact ih (k + 1) _ _ _ (by omega) (by omega) ((hFr.tr hF12 (by omega) (by omega)).up u1 (by omega) (by omega)) (hT12.up6 u1) t6 (fun t ht => by
            by_cases e : t = k
            · subst e
              rw [up_s]
              exact bits_to (bits_one (by omega)) (fun x _ => by rw [e24, Bool.eq_iff_iff]; simp; omega)
            · rw [up_n _ _ e]; exact hrow t (by omega))
        · skip
          have e24 : bk S k = none := (oI_m1 (bk_b hwf)).mp h24
          refine J_iconst (v := nI 0) dX7_stuckByTable_27 (by decide) ?_
          refine J_goto (tgt := 34) dX7_stuckByTable_28 (by decide) ?_
          refine K_iast dX7_stuckByTable_34 t6 (by omega) (by decide) (fun w1 u1 => ?_)
          have hO := (u1.2.1 _ (by omega)).trans hO
          have k1 := (u1.2.1 _ (by omega)).trans k1
          have k2 := (u1.2.1 _ (by omega)).trans k2
          have k3 := (u1.2.1 _ (by omega)).trans k3
          have k4 := (u1.2.1 _ (by omega)).trans k4
          have k5 := (u1.2.1 _ (by omega)).trans k5
          have k6 := (u1.2.1 _ (by omega)).trans k6
          have k7 := (u1.2.1 _ (by omega)).trans k7
          have k8 := (u1.2.1 _ (by omega)).trans k8
          have t6 := u1.1
          have tO := (u1.2.1 _ (by omega)).trans tO
          refine J_iinc (v := nI (k + 1)) dX7_stuckByTable_35 rfl (nI_succ _).symm (by decide) rfl ?_
          refine J_goto (tgt := 2) dX7_stuckByTable_38 (by decide) ?_
          exact ih (k + 1) _ _ _ (by omega) (by omega) ((hFr.tr hF12 (by omega) (by omega)).up u1 (by omega) (by omega)) (hT12.up6 u1) t6 (fun t ht => by
            by_cases e : t = k
            · subst e
              rw [up_s]
              exact bits_to bits_0 (fun x _ => by rw [e24]; rfl)
            · rw [up_n _ _ e]; exact hrow t (by omega))
  refine J_iconst (v := nI 0) dX7_stuckByTable_0 (by decide) ?_
  refine J_istore_n dX7_stuckByTable_1 rfl (by decide) rfl ?_
  exact loop1 (sNt S + 1) 0 w h2 none (by omega) (by omega) (Fr.rf _ _ _) hT t6 (fun t ht => by omega)

end JTRAFFIC

/-! ROUTES: the parts -/
section JPART
theorem c_X6_walk {w : Wd} {a : Nat} {S : St} (hL : RepC w a S) : ∀ (m b : Nat) (seen : Nat → Bool) (y : Int32) (dep : Nat), b < sNb S → seen b = false → bits y seen → (∀ x, seen x = true → x < sNb S) → dep ≤ cnt (sNb S) seen → sNb S ≤ cnt (sNb S) seen + m → MC (4 + m) mX6_walk 0 0 [.ref a, .int (nI b), .int y, .int (nI dep)] w (RP (fun v w' => w' = w ∧ ∃ (y' : Int32) (R : Nat → Bool), v = some (.int y') ∧ bits y' R ∧ WS S b seen R ∧ ∀ x, R x = true → x < sNb S)) := by
  have hL_ := hL
  obtain ⟨x4, x5, x6, f1, f2, f3, f4, f5, f6, f7, f8, hO, ⟨k1, k2, k3, k4, k5, k6, k7, k8⟩, ⟨bc, ba, bo⟩, hlen, hlk, htr, hwf⟩ := hL_
  have hnb := hwf.nb
  have hnt := hwf.nt
  intro m
  induction m with
  | zero =>
    intro b seen y dep hb hs hy hsb h1 h2
    have := cnt_full (p := seen) (n := sNb S) (by omega) b hb
    rw [hs] at this
    cases this
  | succ m ihm =>
    intro b seen y dep hb hs hy hsb h1 h2
    have hlt : cnt (sNb S) seen + 1 ≤ sNb S := by
      have := cnt_up hb hs
      have := cnt_le (sNb S) (va_up seen b true)
      omega
    refine MC_j pnX6 rfl rfl rfl (Or.inr (fun E w h => RP_no E w h)) ?_
    show J (4 + (m + 1)) mX6_walk 0 [some (.ref a), some (.int (nI b)), some (.int y), some (.int (nI dep)), none, none] [] w 0 0 _
    have loop : ∀ n j z R, sNb S < n + j → j ≤ sNb S → bits z R → WL S b j seen R → (∀ x, R x = true → x < sNb S) → dep + 1 ≤ cnt (sNb S) R → sNb S ≤ cnt (sNb S) R + m → J (4 + (m + 1)) mX6_walk 18 [some (.ref a), some (.int (nI b)), some (.int y), some (.int (nI dep)), some (.int z), some (.int (nI j))] [] w 0 0 (RP (fun v w' => w' = w ∧ ∃ (y' : Int32) (R : Nat → Bool), v = some (.int y') ∧ bits y' R ∧ WS S b seen R ∧ ∀ x, R x = true → x < sNb S)) := by
      intro n
      induction n with
      | zero => intros; omega
      | succ n ih =>
        intro j z R q1 q2 hR hW hRb hc1 hc2
        refine J_iload dX6_walk_18 rfl ?_
        refine J_aload_n dX6_walk_20 rfl rfl ?_
        refine J_getfield dX6_walk_21 fX6_21 hO rfl ?_
        refine J_icmp_ge (tgt := 66) dX6_walk_24 (by decide) (fun h24 => ?_) (fun h24 => ?_)
        · skip
          have h24 := (nI_leI (by omega) (by omega)).mp h24
          have ej : j = sNb S := by omega
          subst ej
          refine J_iload dX6_walk_66 rfl ?_
          exact J_ireturn dX6_walk_68 rfl rfl (RP_i ⟨rfl, _, _, rfl, hR, wl_end hwf hW, hRb⟩)
        · skip
          have h24 := mt (nI_leI (by omega) (by omega)).mpr h24
          refine J_aload_n dX6_walk_27 rfl rfl ?_
          refine J_iload_n dX6_walk_28 rfl rfl ?_
          refine J_iload dX6_walk_29 rfl ?_
          refine K_callV dX6_walk_31 YX4_isJoined kX6_45 (rc_of hO rfl) (c_X4_isJoined hL (by omega) (by omega)) rfl rfl (Nat.le_of_ble_eq_true rfl) (by omega) ?_
          refine J_if_eq (tgt := 60) dX6_walk_34 (by decide) (fun h34 => ?_) (fun h34 => ?_)
          · skip
            have e34 : sLk S b j = false := b2i_eq.mp h34
            refine J_iinc (v := nI (j + 1)) dX6_walk_60 rfl (nI_succ _).symm (by decide) rfl ?_
            refine J_goto (tgt := 18) dX6_walk_63 (by decide) ?_
            exact ih (j + 1) _ R (by omega) (by omega) hR (wl_skip hW (Or.inl e34)) hRb hc1 hc2
          · skip
            have e34 : sLk S b j = true := b2i_ne.mp h34
            refine J_iload dX6_walk_37 rfl ?_
            refine J_iload dX6_walk_39 rfl ?_
            refine K_callSN dX6_walk_41 YX8_has kX6_37 (c_has w hR (by omega)) rfl rfl (Nat.le_of_ble_eq_true rfl) (by omega) ?_
            refine J_if_ne (tgt := 60) dX6_walk_44 (by decide) (fun h44 => ?_) (fun h44 => ?_)
            · skip
              have e44 : R j = true := b2i_ne.mp h44
              refine J_iinc (v := nI (j + 1)) dX6_walk_60 rfl (nI_succ _).symm (by decide) rfl ?_
              refine J_goto (tgt := 18) dX6_walk_63 (by decide) ?_
              exact ih (j + 1) _ R (by omega) (by omega) hR (wl_skip hW (Or.inr e44)) hRb hc1 hc2
            · skip
              have e44 : R j = false := b2i_eq.mp h44
              refine J_aload_n dX6_walk_47 rfl rfl ?_
              refine J_iload dX6_walk_48 rfl ?_
              refine J_iload dX6_walk_50 rfl ?_
              refine J_iload_n dX6_walk_52 rfl rfl ?_
              refine J_iconst (v := nI 1) dX6_walk_53 (by decide) ?_
              refine K_iadd (v := nI (dep + 1)) dX6_walk_54 (nI_add _ _) ?_
              refine K_callSp dX6_walk_55 YX6_walk kX6_64 (ihm j R _ (dep + 1) (by omega) e44 hR hRb (by omega) (by omega)) rfl rfl (Nat.le_of_ble_eq_true rfl) (by omega) (fun v55 w55 q55 => ?_)
              obtain ⟨rfl, y2, R2, rfl, hR2, hW2, hRb2⟩ := q55
              refine J_istore dX6_walk_58 (by decide) rfl ?_
              refine J_iinc (v := nI (j + 1)) dX6_walk_60 rfl (nI_succ _).symm (by decide) rfl ?_
              refine J_goto (tgt := 18) dX6_walk_63 (by decide) ?_
              exact ih (j + 1) _ R2 (by omega) (by omega) hR2 (wl_step hW e34 hW2) hRb2 (by have := cnt_mono (n := sNb S) (fun x _ h => hW2.1 x h); omega) (by have := cnt_mono (n := sNb S) (fun x _ h => hW2.1 x h); omega)
    refine J_iload_n dX6_walk_0 rfl rfl ?_
    refine J_bipush (v := nI 14) dX6_walk_1 (by decide) ?_
    refine J_icmp_lt (tgt := 8) dX6_walk_3 (by decide) (fun h3 => ?_) (fun h3 => ?_)
    · skip
      have h3 := (nI_ltI (by omega) (by omega)).mp h3
      refine J_iload_n dX6_walk_8 rfl rfl ?_
      refine J_iconst (v := nI 1) dX6_walk_9 (by decide) ?_
      refine J_iload_n dX6_walk_10 rfl rfl ?_
      refine K_ishl (v := ((1 : Int32) <<< (nI b &&& 31))) dX6_walk_11 rfl ?_
      refine K_ior (v := (y ||| ((1 : Int32) <<< (nI b &&& 31)))) dX6_walk_12 rfl ?_
      refine J_istore dX6_walk_13 (by decide) rfl ?_
      refine J_iconst (v := nI 0) dX6_walk_15 (by decide) ?_
      refine J_istore dX6_walk_16 (by decide) rfl ?_
      exact loop (sNb S + 1) 0 _ _ (by omega) (by omega) (bits_set hy (by omega)) wl_0 (fun x hx => by
        by_cases e : x = b
        · omega
        · rw [up_n _ _ e] at hx; exact hsb x hx) (by rw [cnt_up hb hs]; omega) (by rw [cnt_up hb hs]; omega)
    · skip
      have h3 := mt (nI_ltI (by omega) (by omega)).mpr h3
      omega

theorem c_X6_partsByWalks {w : Wd} {r a : Nat} {S : St} (hL : RepC w a S) : MC 25 mX6_partsByWalks 0 0 [.ref r, .ref a] w (RI (.int (nI (pcN S))) w) := by
  have hL_ := hL
  obtain ⟨x4, x5, x6, f1, f2, f3, f4, f5, f6, f7, f8, hO, ⟨k1, k2, k3, k4, k5, k6, k7, k8⟩, ⟨bc, ba, bo⟩, hlen, hlk, htr, hwf⟩ := hL_
  have hnb := hwf.nb
  have hnt := hwf.nt
  refine MC_j pnX6 rfl rfl rfl (Or.inr (fun E w h => by cases h.1)) ?_
  show J 25 mX6_partsByWalks 0 [some (.ref r), some (.ref a), none, none, none] [] w 0 0 _
  have loop : ∀ n k z R, sNb S < n + k → k ≤ sNb S → bits z R → WT S k R → (∀ x, R x = true → x < sNb S) → J 25 mX6_partsByWalks 7 [some (.ref r), some (.ref a), some (.int (nI (cnt k (prB S)))), some (.int z), some (.int (nI k))] [] w 0 0 (RI (.int (nI (pcN S))) w) := by
    intro n
    induction n with
    | zero => intros; omega
    | succ n ih =>
      intro k z R q1 q2 hR hW hRb
      refine J_iload dX6_partsByWalks_7 rfl ?_
      refine J_aload_n dX6_partsByWalks_9 rfl rfl ?_
      refine J_getfield dX6_partsByWalks_10 fX6_21 hO rfl ?_
      refine J_icmp_ge (tgt := 43) dX6_partsByWalks_13 (by decide) (fun h13 => ?_) (fun h13 => ?_)
      · skip
        have h13 := (nI_leI (by omega) (by omega)).mp h13
        have ek : k = sNb S := by omega
        subst ek
        refine J_iload_n dX6_partsByWalks_43 rfl rfl ?_
        exact J_ireturn dX6_partsByWalks_44 rfl rfl ⟨rfl, rfl⟩
      · skip
        have h13 := mt (nI_leI (by omega) (by omega)).mpr h13
        refine J_iload_n dX6_partsByWalks_16 rfl rfl ?_
        refine J_iload dX6_partsByWalks_17 rfl ?_
        refine K_callSN dX6_partsByWalks_19 YX8_has kX6_37 (c_has w hR (by omega)) rfl rfl (Nat.le_of_ble_eq_true rfl) (by decide) ?_
        refine J_if_ne (tgt := 37) dX6_partsByWalks_22 (by decide) (fun h22 => ?_) (fun h22 => ?_)
        · skip
          have e22 : R k = true := b2i_ne.mp h22
          refine J_iinc (v := nI (k + 1)) dX6_partsByWalks_37 rfl (nI_succ _).symm (by decide) rfl ?_
          refine J_goto (tgt := 7) dX6_partsByWalks_40 (by decide) ?_
          have ec : cnt (k + 1) (prB S) = cnt k (prB S) := by
            show cnt k (prB S) + (if prB S k = true then 1 else 0) = _
            rw [wt_pr hW, e22]
            rfl
          have g := ih (k + 1) _ R (by omega) (by omega) hR (wt_skip hW e22) hRb
          rw [ec] at g
          exact g
        · skip
          have e22 : R k = false := b2i_eq.mp h22
          refine J_iinc (v := nI (cnt k (prB S) + 1)) dX6_partsByWalks_25 rfl (nI_succ _).symm (by decide) rfl ?_
          refine J_aload_n dX6_partsByWalks_28 rfl rfl ?_
          refine J_iload dX6_partsByWalks_29 rfl ?_
          refine J_iload_n dX6_partsByWalks_31 rfl rfl ?_
          refine J_iconst (v := nI 0) dX6_partsByWalks_32 (by decide) ?_
          refine K_callSp dX6_partsByWalks_33 YX6_walk kX6_64 (c_X6_walk hL 14 k R _ 0 (by omega) e22 hR hRb (by omega) (by omega)) rfl rfl (Nat.le_of_ble_eq_true rfl) (by decide) (fun v33 w33 q33 => ?_)
          obtain ⟨rfl, y2, R2, rfl, hR2, hW2, hRb2⟩ := q33
          refine J_istore_n dX6_partsByWalks_36 rfl (by decide) rfl ?_
          refine J_iinc (v := nI (k + 1)) dX6_partsByWalks_37 rfl (nI_succ _).symm (by decide) rfl ?_
          refine J_goto (tgt := 7) dX6_partsByWalks_40 (by decide) ?_
          have ec : cnt (k + 1) (prB S) = cnt k (prB S) + 1 := by
            show cnt k (prB S) + (if prB S k = true then 1 else 0) = _
            rw [wt_pr hW, e22]
            rfl
          have g := ih (k + 1) _ R2 (by omega) (by omega) hR2 (wt_step hW hW2) hRb2
          rw [ec] at g
          exact g
  refine J_iconst (v := nI 0) dX6_partsByWalks_0 (by decide) ?_
  refine J_istore_n dX6_partsByWalks_1 rfl (by decide) rfl ?_
  refine J_iconst (v := nI 0) dX6_partsByWalks_2 (by decide) ?_
  refine J_istore_n dX6_partsByWalks_3 rfl (by decide) rfl ?_
  refine J_iconst (v := nI 0) dX6_partsByWalks_4 (by decide) ?_
  refine J_istore dX6_partsByWalks_5 (by decide) rfl ?_
  exact loop (sNb S + 1) 0 0 (fun _ => false) (by omega) (by omega) bits_0 wt_0 (fun x h => by cases h)

theorem c_X6_unite {w : Wd} {r n p q : Nat} {g : Nat → Nat} {f : Nat → Int32} (hR : RepR w r) (hn : n ≤ 14) (hc : w.1 (r + 3) = .inl (0, 14, .inl f)) (hrow : ∀ b, b < n → f b = nI (g b)) (hg : ∀ b, b < n → g b < n) (hp : p < n) (hq : q < n) : MC 2 mX6_unite 0 0 [.ref r, .int (nI n), .int (nI p), .int (nI q)] w (RP (fun v w' => v = none ∧ Fr w w' (r + 3) (r + 4) ∧ ∃ f : Nat → Int32, w'.1 (r + 3) = .inl (0, 14, .inl f) ∧ ∀ b, b < n → f b = nI (mrg g p q b))) := by
  obtain ⟨g1, g2, g3, rO, r1, r2, r3⟩ := id hR
  have r3 := hc
  have r1_0 := r1
  have r2_0 := r2
  have r3_0 := r3
  have rO_0 := rO
  refine MC_j pnX6 rfl rfl rfl (Or.inr (fun E w h => RP_no E w h)) ?_
  show J 2 mX6_unite 0 [some (.ref r), some (.int (nI n)), some (.int (nI p)), some (.int (nI q)), none] [] w 0 0 _
  have loop : ∀ m j w1 f, n < m + j → j ≤ n → Fr w w1 (r + 3) (r + 4) → w1.1 (r + 3) = .inl (0, 14, .inl f) → (∀ b, b < n → f b = nI (if b < j then mrg g p q b else g b)) → J 2 mX6_unite 3 [some (.ref r), some (.int (nI n)), some (.int (nI p)), some (.int (nI q)), some (.int (nI j))] [] w1 0 0 (RP (fun v w' => v = none ∧ Fr w w' (r + 3) (r + 4) ∧ ∃ f : Nat → Int32, w'.1 (r + 3) = .inl (0, 14, .inl f) ∧ ∀ b, b < n → f b = nI (mrg g p q b))) := by
    intro m
    induction m with
    | zero => intros; omega
    | succ m ih =>
      intro j w1 f q1 q2 hFr r3 hrow
      have r1 := (hFr.1 _ (by omega)).trans r1_0
      have r2 := (hFr.1 _ (by omega)).trans r2_0
      have rO := (hFr.1 _ (by omega)).trans rO_0
      refine J_iload dX6_unite_3 rfl ?_
      refine J_iload_n dX6_unite_5 rfl rfl ?_
      refine J_icmp_ge (tgt := 34) dX6_unite_6 (by decide) (fun h6 => ?_) (fun h6 => ?_)
      · skip
        have h6 := (nI_leI (by omega) (by omega)).mp h6
        exact J_return dX6_unite_34 rfl (RP_i ⟨rfl, hFr, _, r3, fun b hb => by rw [hrow b hb, if_pos (by omega)]⟩)
      · skip
        have h6 := mt (nI_leI (by omega) (by omega)).mpr h6
        refine J_aload_n dX6_unite_9 rfl rfl ?_
        refine J_getfield dX6_unite_10 fX6_18 rO rfl ?_
        refine J_iload dX6_unite_13 rfl ?_
        have hgj := hg j (by omega)
        refine K_iald (v := nI (g j)) dX6_unite_15 r3 (by omega) (by decide) (by rw [hrow j (by omega), if_neg (by omega)]) ?_
        refine J_iload_n dX6_unite_16 rfl rfl ?_
        refine J_icmp_ne (tgt := 28) dX6_unite_17 (by decide) (fun h17 => ?_) (fun h17 => ?_)
        · skip
          have h17 := mt (nI_eq (by omega) (by omega)).mpr h17
          refine J_iinc (v := nI (j + 1)) dX6_unite_28 rfl (nI_succ _).symm (by decide) rfl ?_
          refine J_goto (tgt := 3) dX6_unite_31 (by decide) ?_
          exact ih (j + 1) _ _ (by omega) (by omega) hFr r3 (fun b hb => by
            by_cases e : b = j
            · subst e
              rw [hrow _ hb, if_neg (by omega), if_pos (by omega)]
              unfold mrg
              rw [if_neg h17]
            · rw [hrow b hb]
              by_cases e2 : b < j
              · rw [if_pos e2, if_pos (by omega)]
              · rw [if_neg e2, if_neg (by omega)])
        · skip
          have h17 := (nI_eq (by omega) (by omega)).mp h17
          refine J_aload_n dX6_unite_20 rfl rfl ?_
          refine J_getfield dX6_unite_21 fX6_18 rO rfl ?_
          refine J_iload dX6_unite_24 rfl ?_
          refine J_iload_n dX6_unite_26 rfl rfl ?_
          refine K_iast dX6_unite_27 r3 (by omega) (by decide) (fun w1 u1 => ?_)
          have r1 := (u1.2.1 _ (by omega)).trans r1
          have r2 := (u1.2.1 _ (by omega)).trans r2
          have r3 := u1.1
          have rO := (u1.2.1 _ (by omega)).trans rO
          refine J_iinc (v := nI (j + 1)) dX6_unite_28 rfl (nI_succ _).symm (by decide) rfl ?_
          refine J_goto (tgt := 3) dX6_unite_31 (by decide) ?_
          exact ih (j + 1) _ _ (by omega) (by omega) (hFr.up u1 (by omega) (by omega)) r3 (fun b hb => by
            by_cases e : b = j
            · subst e
              rw [up_s, if_pos (by omega)]
              unfold mrg
              rw [if_pos h17]
            · rw [up_n _ _ e, hrow b hb]
              by_cases e2 : b < j
              · rw [if_pos e2, if_pos (by omega)]
              · rw [if_neg e2, if_neg (by omega)])
  refine J_iconst (v := nI 0) dX6_unite_0 (by decide) ?_
  refine J_istore dX6_unite_1 (by decide) rfl ?_
  exact loop (n + 1) 0 w f (by omega) (by omega) (Fr.rf _ _ _) r3 (fun b hb => by rw [hrow b hb, if_neg (by omega)])

theorem c_X6_partsByUnions {w : Wd} {r a : Nat} {S : St} (hR : RepR w r) (hL : RepC w a S) (hd : r + 4 ≤ a ∨ a + 9 ≤ r) : MC 4 mX6_partsByUnions 0 0 [.ref r, .ref a] w (RQ w r (nI (pcN S))) := by
  obtain ⟨g1, g2, g3, rO, r1, r2, r3⟩ := id hR
  have hL_ := hL
  obtain ⟨x4, x5, x6, f1, f2, f3, f4, f5, f6, f7, f8, hO, ⟨k1, k2, k3, k4, k5, k6, k7, k8⟩, ⟨bc, ba, bo⟩, hlen, hlk, htr, hwf⟩ := hL_
  have hnb := hwf.nb
  have hnt := hwf.nt
  have hO_0 := hO
  have k1_0 := k1
  have k2_0 := k2
  have k3_0 := k3
  have k4_0 := k4
  have k5_0 := k5
  have k6_0 := k6
  have k7_0 := k7
  have k8_0 := k8
  have r1_0 := r1
  have r2_0 := r2
  have r3_0 := r3
  have rO_0 := rO
  refine MC_j pnX6 rfl rfl rfl (Or.inr (fun E w h => RP_no E w h)) ?_
  show J 4 mX6_partsByUnions 0 [some (.ref r), some (.ref a), none, none, none] [] w 0 0 _
  have loopi : ∀ n i w1 f g o4, sNb S < n + i → i ≤ sNb S → Fr w w1 (r + 3) (r + 4) → w1.1 (r + 3) = .inl (0, 14, .inl f) → (∀ b, b < sNb S → f b = nI (g b)) → UI S i 0 g → J 4 mX6_partsByUnions 30 [some (.ref r), some (.ref a), some (.int (nI (cnt (sNb S) (fsG g)))), some (.int (nI i)), o4] [] w1 0 0 (RQ w r (nI (pcN S))) := by
    intro n
    induction n with
    | zero => intros; omega
    | succ n ih =>
      intro i w1 f g o4 q1 q2 hFr r3 hrow hU
      have hO := (hFr.1 _ (by omega)).trans hO_0
      have k1 := (hFr.1 _ (by omega)).trans k1_0
      have k2 := (hFr.1 _ (by omega)).trans k2_0
      have k3 := (hFr.1 _ (by omega)).trans k3_0
      have k4 := (hFr.1 _ (by omega)).trans k4_0
      have k5 := (hFr.1 _ (by omega)).trans k5_0
      have k6 := (hFr.1 _ (by omega)).trans k6_0
      have k7 := (hFr.1 _ (by omega)).trans k7_0
      have k8 := (hFr.1 _ (by omega)).trans k8_0
      have r1 := (hFr.1 _ (by omega)).trans r1_0
      have r2 := (hFr.1 _ (by omega)).trans r2_0
      have rO := (hFr.1 _ (by omega)).trans rO_0
      have loopj : i < sNb S → ∀ m j w2 f g, i < m + j → j ≤ i → Fr w w2 (r + 3) (r + 4) → w2.1 (r + 3) = .inl (0, 14, .inl f) → (∀ b, b < sNb S → f b = nI (g b)) → UI S i j g → J 4 mX6_partsByUnions 41 [some (.ref r), some (.ref a), some (.int (nI (cnt (sNb S) (fsG g)))), some (.int (nI i)), some (.int (nI j))] [] w2 0 0 (RQ w r (nI (pcN S))) := by
        intro hib m
        induction m with
        | zero => intros; omega
        | succ m ihj =>
          intro j w2 f g q3 q4 hFr r3 hrow hU
          have hO := (hFr.1 _ (by omega)).trans hO_0
          have k1 := (hFr.1 _ (by omega)).trans k1_0
          have k2 := (hFr.1 _ (by omega)).trans k2_0
          have k3 := (hFr.1 _ (by omega)).trans k3_0
          have k4 := (hFr.1 _ (by omega)).trans k4_0
          have k5 := (hFr.1 _ (by omega)).trans k5_0
          have k6 := (hFr.1 _ (by omega)).trans k6_0
          have k7 := (hFr.1 _ (by omega)).trans k7_0
          have k8 := (hFr.1 _ (by omega)).trans k8_0
          have r1 := (hFr.1 _ (by omega)).trans r1_0
          have r2 := (hFr.1 _ (by omega)).trans r2_0
          have rO := (hFr.1 _ (by omega)).trans rO_0
          refine J_iload dX6_partsByUnions_41 rfl ?_
          refine J_iload_n dX6_partsByUnions_43 rfl rfl ?_
          refine J_icmp_ge (tgt := 103) dX6_partsByUnions_44 (by decide) (fun h44 => ?_) (fun h44 => ?_)
          · skip
            have h44 := (nI_leI (by omega) (by omega)).mp h44
            have hU := (show j = i by omega) ▸ hU
            refine J_iinc (v := nI (i + 1)) dX6_partsByUnions_103 rfl (nI_succ _).symm (by decide) rfl ?_
            refine J_goto (tgt := 30) dX6_partsByUnions_106 (by decide) ?_
            exact ih (i + 1) _ _ _ _ (by omega) (by omega) hFr r3 hrow (ui_next hU)
          · skip
            have h44 := mt (nI_leI (by omega) (by omega)).mpr h44
            refine J_aload_n dX6_partsByUnions_47 rfl rfl ?_
            refine J_iload_n dX6_partsByUnions_48 rfl rfl ?_
            refine J_iload dX6_partsByUnions_49 rfl ?_
            refine K_callV dX6_partsByUnions_51 YX4_isJoined kX6_45 (rc_of hO rfl) (c_X4_isJoined (hL.fr hFr (by omega)) (show i < 14 by omega) (show j < 32 by omega)) rfl rfl (Nat.le_of_ble_eq_true rfl) (by decide) ?_
            refine J_if_eq (tgt := 97) dX6_partsByUnions_54 (by decide) (fun h54 => ?_) (fun h54 => ?_)
            · skip
              have e54 : sLk S i j = false := b2i_eq.mp h54
              refine J_iinc (v := nI (j + 1)) dX6_partsByUnions_97 rfl (nI_succ _).symm (by decide) rfl ?_
              refine J_goto (tgt := 41) dX6_partsByUnions_100 (by decide) ?_
              exact ihj (j + 1) _ _ _ (by omega) (by omega) hFr r3 hrow (ui_skip hU (Or.inl e54))
            · skip
              have e54 : sLk S i j = true := b2i_ne.mp h54
              refine J_aload_n dX6_partsByUnions_57 rfl rfl ?_
              refine J_getfield dX6_partsByUnions_58 fX6_18 rO rfl ?_
              refine J_iload_n dX6_partsByUnions_61 rfl rfl ?_
              refine K_iald (v := nI (g i)) dX6_partsByUnions_62 r3 (by omega) (by decide) (hrow i (by omega)) ?_
              refine J_aload_n dX6_partsByUnions_63 rfl rfl ?_
              refine J_getfield dX6_partsByUnions_64 fX6_18 rO rfl ?_
              refine J_iload dX6_partsByUnions_67 rfl ?_
              refine K_iald (v := nI (g j)) dX6_partsByUnions_69 r3 (by omega) (by decide) (hrow j (by omega)) ?_
              have hgi := hU.1 i (by omega)
              have hgj := hU.1 j (by omega)
              refine J_icmp_eq (tgt := 97) dX6_partsByUnions_70 (by decide) (fun h70 => ?_) (fun h70 => ?_)
              · skip
                have h70 := nI_inj (by omega) (by omega) h70
                refine J_iinc (v := nI (j + 1)) dX6_partsByUnions_97 rfl (nI_succ _).symm (by decide) rfl ?_
                refine J_goto (tgt := 41) dX6_partsByUnions_100 (by decide) ?_
                exact ihj (j + 1) _ _ _ (by omega) (by omega) hFr r3 hrow (ui_skip hU (Or.inr h70))
              · skip
                have h70 : g i ≠ g j := fun e => h70 (congrArg nI e)
                have hm := fsG_mrg (n := sNb S) (g := g) (show i < sNb S by omega) (show j < sNb S by omega) h70
                refine J_aload_n dX6_partsByUnions_73 rfl rfl ?_
                refine J_aload_n dX6_partsByUnions_74 rfl rfl ?_
                refine J_getfield dX6_partsByUnions_75 fX6_21 hO rfl ?_
                refine J_aload_n dX6_partsByUnions_78 rfl rfl ?_
                refine J_getfield dX6_partsByUnions_79 fX6_18 rO rfl ?_
                refine J_iload_n dX6_partsByUnions_82 rfl rfl ?_
                refine K_iald (v := nI (g i)) dX6_partsByUnions_83 r3 (by omega) (by decide) (hrow i (by omega)) ?_
                refine J_aload_n dX6_partsByUnions_84 rfl rfl ?_
                refine J_getfield dX6_partsByUnions_85 fX6_18 rO rfl ?_
                refine J_iload dX6_partsByUnions_88 rfl ?_
                refine K_iald (v := nI (g j)) dX6_partsByUnions_90 r3 (by omega) (by decide) (hrow j (by omega)) ?_
                refine K_callVp dX6_partsByUnions_91 YX6_unite kX6_68 (rc_of rO rfl) (c_X6_unite ⟨_, _, _, rO, r1, r2, r3⟩ hnb r3 hrow hU.1 (by omega) (by omega)) rfl rfl (Nat.le_of_ble_eq_true rfl) (by decide) (fun v91 w91 q91 => ?_)
                obtain ⟨rfl, hF91, f91, hc91, hrow91⟩ := q91
                have hO := (hF91.1 _ (by omega)).trans hO
                have k1 := (hF91.1 _ (by omega)).trans k1
                have k2 := (hF91.1 _ (by omega)).trans k2
                have k3 := (hF91.1 _ (by omega)).trans k3
                have k4 := (hF91.1 _ (by omega)).trans k4
                have k5 := (hF91.1 _ (by omega)).trans k5
                have k6 := (hF91.1 _ (by omega)).trans k6
                have k7 := (hF91.1 _ (by omega)).trans k7
                have k8 := (hF91.1 _ (by omega)).trans k8
                have r1 := (hF91.1 _ (by omega)).trans r1
                have r2 := (hF91.1 _ (by omega)).trans r2
                have rO := (hF91.1 _ (by omega)).trans rO
                have r3 := hc91
                refine J_iinc (v := nI (cnt (sNb S) (fsG (mrg g (g i) (g j))))) dX6_partsByUnions_94 rfl ((nI_dec (by omega)).trans (congrArg nI (by omega))) (by decide) rfl ?_
                refine J_iinc (v := nI (j + 1)) dX6_partsByUnions_97 rfl (nI_succ _).symm (by decide) rfl ?_
                refine J_goto (tgt := 41) dX6_partsByUnions_100 (by decide) ?_
                exact ihj (j + 1) _ _ _ (by omega) (by omega) (hFr.tr hF91 (by omega) (by omega)) r3 hrow91 (ui_step hwf hU (by omega) (by omega) e54)
      refine J_iload_n dX6_partsByUnions_30 rfl rfl ?_
      refine J_aload_n dX6_partsByUnions_31 rfl rfl ?_
      refine J_getfield dX6_partsByUnions_32 fX6_21 hO rfl ?_
      refine J_icmp_ge (tgt := 109) dX6_partsByUnions_35 (by decide) (fun h35 => ?_) (fun h35 => ?_)
      · skip
        have h35 := (nI_leI (by omega) (by omega)).mp h35
        
        refine J_iload_n dX6_partsByUnions_109 rfl rfl ?_
        exact J_ireturn dX6_partsByUnions_110 rfl rfl (RP_i ⟨by rw [← ui_end hwf hU (by omega)], hFr.wd (by omega) (by omega), ⟨_, _, _, rO, r1, r2, r3⟩⟩)
      · skip
        have h35 := mt (nI_leI (by omega) (by omega)).mpr h35
        have hib : i < sNb S := by omega
        refine J_iconst (v := nI 0) dX6_partsByUnions_38 (by decide) ?_
        refine J_istore dX6_partsByUnions_39 (by decide) rfl ?_
        exact loopj hib (i + 1) 0 w1 f g (by omega) (by omega) hFr r3 hrow hU
  have stage2 : ∀ o2 w1 f, Fr w w1 (r + 3) (r + 4) → w1.1 (r + 3) = .inl (0, 14, .inl f) → (∀ b, b < sNb S → f b = nI b) → J 4 mX6_partsByUnions 23 [some (.ref r), some (.ref a), o2, none, none] [] w1 0 0 (RQ w r (nI (pcN S))) := by
    intro o2 w1 f hFr r3 hrow
    have hO := (hFr.1 _ (by omega)).trans hO_0
    have k1 := (hFr.1 _ (by omega)).trans k1_0
    have k2 := (hFr.1 _ (by omega)).trans k2_0
    have k3 := (hFr.1 _ (by omega)).trans k3_0
    have k4 := (hFr.1 _ (by omega)).trans k4_0
    have k5 := (hFr.1 _ (by omega)).trans k5_0
    have k6 := (hFr.1 _ (by omega)).trans k6_0
    have k7 := (hFr.1 _ (by omega)).trans k7_0
    have k8 := (hFr.1 _ (by omega)).trans k8_0
    have r1 := (hFr.1 _ (by omega)).trans r1_0
    have r2 := (hFr.1 _ (by omega)).trans r2_0
    have rO := (hFr.1 _ (by omega)).trans rO_0
    refine J_aload_n dX6_partsByUnions_23 rfl rfl ?_
    refine J_getfield dX6_partsByUnions_24 fX6_21 hO rfl ?_
    refine J_istore_n dX6_partsByUnions_27 rfl (by decide) rfl ?_
    refine J_iconst (v := nI 0) dX6_partsByUnions_28 (by decide) ?_
    refine J_istore_n dX6_partsByUnions_29 rfl (by decide) rfl ?_
    have g0 := loopi (sNb S + 1) 0 w1 f (fun a => a) none (by omega) (by omega) hFr r3 hrow ui_0
    rw [fsG_id] at g0
    exact g0
  have loopk : ∀ n k w1 f, sNb S < n + k → k ≤ sNb S → Fr w w1 (r + 3) (r + 4) → w1.1 (r + 3) = .inl (0, 14, .inl f) → (∀ b, b < k → f b = nI b) → J 4 mX6_partsByUnions 2 [some (.ref r), some (.ref a), some (.int (nI k)), none, none] [] w1 0 0 (RQ w r (nI (pcN S))) := by
    intro n
    induction n with
    | zero => intros; omega
    | succ n ih =>
      intro k w1 f q1 q2 hFr r3 hrow
      have hO := (hFr.1 _ (by omega)).trans hO_0
      have k1 := (hFr.1 _ (by omega)).trans k1_0
      have k2 := (hFr.1 _ (by omega)).trans k2_0
      have k3 := (hFr.1 _ (by omega)).trans k3_0
      have k4 := (hFr.1 _ (by omega)).trans k4_0
      have k5 := (hFr.1 _ (by omega)).trans k5_0
      have k6 := (hFr.1 _ (by omega)).trans k6_0
      have k7 := (hFr.1 _ (by omega)).trans k7_0
      have k8 := (hFr.1 _ (by omega)).trans k8_0
      have r1 := (hFr.1 _ (by omega)).trans r1_0
      have r2 := (hFr.1 _ (by omega)).trans r2_0
      have rO := (hFr.1 _ (by omega)).trans rO_0
      refine J_iload_n dX6_partsByUnions_2 rfl rfl ?_
      refine J_aload_n dX6_partsByUnions_3 rfl rfl ?_
      refine J_getfield dX6_partsByUnions_4 fX6_21 hO rfl ?_
      refine J_icmp_ge (tgt := 23) dX6_partsByUnions_7 (by decide) (fun h7 => ?_) (fun h7 => ?_)
      · skip
        have h7 := (nI_leI (by omega) (by omega)).mp h7
        exact stage2 _ _ _ hFr r3 (fun b hb => hrow b (by omega))
      · skip
        have h7 := mt (nI_leI (by omega) (by omega)).mpr h7
        refine J_aload_n dX6_partsByUnions_10 rfl rfl ?_
        refine J_getfield dX6_partsByUnions_11 fX6_18 rO rfl ?_
        refine J_iload_n dX6_partsByUnions_14 rfl rfl ?_
        refine J_iload_n dX6_partsByUnions_15 rfl rfl ?_
        refine K_iast dX6_partsByUnions_16 r3 (by omega) (by decide) (fun w1 u1 => ?_)
        have hO := (u1.2.1 _ (by omega)).trans hO
        have k1 := (u1.2.1 _ (by omega)).trans k1
        have k2 := (u1.2.1 _ (by omega)).trans k2
        have k3 := (u1.2.1 _ (by omega)).trans k3
        have k4 := (u1.2.1 _ (by omega)).trans k4
        have k5 := (u1.2.1 _ (by omega)).trans k5
        have k6 := (u1.2.1 _ (by omega)).trans k6
        have k7 := (u1.2.1 _ (by omega)).trans k7
        have k8 := (u1.2.1 _ (by omega)).trans k8
        have r1 := (u1.2.1 _ (by omega)).trans r1
        have r2 := (u1.2.1 _ (by omega)).trans r2
        have r3 := u1.1
        have rO := (u1.2.1 _ (by omega)).trans rO
        refine J_iinc (v := nI (k + 1)) dX6_partsByUnions_17 rfl (nI_succ _).symm (by decide) rfl ?_
        refine J_goto (tgt := 2) dX6_partsByUnions_20 (by decide) ?_
        exact ih (k + 1) _ _ (by omega) (by omega) (hFr.up u1 (by omega) (by omega)) r3 (fun b hb => by
          by_cases e : b = k
          · subst e; rw [up_s]
          · rw [up_n _ _ e]; exact hrow b (by omega))
  refine J_iconst (v := nI 0) dX6_partsByUnions_0 (by decide) ?_
  refine J_istore_n dX6_partsByUnions_1 rfl (by decide) rfl ?_
  exact loopk (sNb S + 1) 0 w g3 (by omega) (by omega) (Fr.rf _ _ _) r3 (fun b hb => by omega)

end JPART

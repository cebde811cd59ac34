/-! WHAT IS MADE: the constructors -/
section JINIT
theorem c_X3_init {w : Wd} {a n : Nat} (hC : w.1 a = .inr (3, [.null, .int 0, .int 0])) (hn : w.2.1 = n) (ha : a + 1 = 100 + n) (hf : w.2.2 = true) : MC 3 mX3_init 82 720 [.ref a] w (RP (fun v w' => v = none ∧ NwF w w' a 83 ∧ RepH w' a (fun _ => S0) 0 S0)) := by
  have hn0 := hn
  refine MC_j pnX3 rfl rfl rfl (Or.inr (fun E w h => RP_no E w h)) ?_
  show J 3 mX3_init 0 [some (.ref a), none] [] w 82 720 _
  have loop : ∀ n9 k fl w1, n9 + k = 9 → k ≤ 9 → w1.1 a = .inr (3, [.ref (a + 1), .int (nI 0), .int (nI 0)]) → w1.1 (a + 1) = .inl (4, 9, .inr (.inr (.inr (.inr fl)))) → w1.2.1 = n + 1 + 9 * k → w1.2.2 = true → (∀ j, j < k → fl j = some (a + 2 + 9 * j)) → (∀ j, j < k → RepC w1 (a + 2 + 9 * j) S0) → (∀ b : Nat, b < a ∨ a + 83 ≤ b → w1.1 b = w.1 b) → J 3 mX3_init 25 [some (.ref a), some (.int (nI k))] [] w1 (9 * n9) (79 * n9) (RP (fun v w' => v = none ∧ NwF w w' a 83 ∧ RepH w' a (fun _ => S0) 0 S0)) := by
    intro n9
    induction n9 with
    | zero =>
      intro k fl w1 q1 q2 hC hS hn hf hfl hly hX
      refine J_iload_n dX3_init_25 rfl rfl ?_
      refine J_bipush (v := nI 9) dX3_init_26 (by decide) ?_
      refine J_icmp_ge (tgt := 50) dX3_init_28 (by decide) (fun h28 => ?_) (fun h28 => absurd ((nI_leI (by omega) (by omega)).mpr (show 9 ≤ k by omega)) h28)
      exact J_return dX3_init_50 rfl (RP_i ⟨rfl, ⟨hX, by omega, hf⟩, 0, fun _ => S0, fl, hC, hS, (fun j hj => hfl j (by omega)), (fun j hj => hly j (by omega)), ⟨by omega, by omega⟩, (fun j hj => absurd hj (Nat.not_lt_zero j)), rfl⟩)
    | succ n9 ih =>
      intro k fl w1 q1 q2 hC hS hn hf hfl hly hX
      refine J_iload_n dX3_init_25 rfl rfl ?_
      refine J_bipush (v := nI 9) dX3_init_26 (by decide) ?_
      refine J_icmp_ge (tgt := 50) dX3_init_28 (by decide) (fun h28 => ?_) (fun h28 => ?_)
      · skip
        have h28 := (nI_leI (by omega) (by omega)).mp h28
        have ek : k = 9 := by omega
        exact J_return dX3_init_50 rfl (RP_i ⟨rfl, ⟨hX, by omega, hf⟩, 0, fun _ => S0, fl, hC, hS, (fun j hj => hfl j (by omega)), (fun j hj => hly j (by omega)), ⟨by omega, by omega⟩, (fun j hj => absurd hj (Nat.not_lt_zero j)), rfl⟩)
      · skip
        have h28 := mt (nI_leI (by omega) (by omega)).mpr h28
        refine J_aload_n dX3_init_31 rfl rfl ?_
        refine J_getfield dX3_init_32 fX3_11 hC rfl ?_
        refine J_iload_n dX3_init_35 rfl rfl ?_
        refine K_new (N := 15) (kb := 9 * n9 + 8) (sb := 79 * n9 + 64) dX3_init_36 nX3_9 hf (fun w2 u2 => ?_)
        replace hC := (u2.2.1 _ (by omega)).trans hC
        replace hS := (u2.2.1 _ (by omega)).trans hS
        have e2 : 100 + w1.2.1 = a + 2 + 9 * k := by omega
        rw [e2]
        have c2 := e2 ▸ u2.1
        replace hn : w2.2.1 = n + 1 + 9 * k + 1 := by rw [u2.2.2.1]; omega
        replace hf := u2.2.2.2
        refine J_dup dX3_init_39 rfl ?_
        refine K_callINp (kb := 9 * n9) (sb := 79 * n9) dX3_init_40 YX4_init rfl rfl kX3_24 (c_X4_init c2 hn (by omega) hf) rfl rfl (Nat.le_of_ble_eq_true rfl) (by decide) (fun v40 w40 q40 => ?_)
        obtain ⟨rfl, hN40, hrep⟩ := q40
        have hC := (hN40.1 _ (by omega)).trans hC
        have hS := (hN40.1 _ (by omega)).trans hS
        have hn : w40.2.1 = n + 1 + 9 * (k + 1) := by have := hN40.2.1; omega
        have hf := hN40.2.2
        have hK : ∃ fs, w40.1 (a + 2 + 9 * k) = .inr (4, fs) := by obtain ⟨_, _, _, _, _, _, _, _, _, _, _, q0, -⟩ := id hrep; exact ⟨_, q0⟩
        obtain ⟨fsk, hK⟩ := hK
        refine K_aast dX3_init_43 hS hK rfl (by omega) (by decide) (fun w3 u3 => ?_)
        replace hC := (u3.2.1 _ (by omega)).trans hC
        have hS := u3.1
        replace hn := (congrArg Prod.fst u3.2.2).trans hn
        replace hf := (congrArg Prod.snd u3.2.2).trans hf
        refine J_iinc (v := nI (k + 1)) dX3_init_44 rfl (nI_succ _).symm (by decide) rfl ?_
        refine J_goto (tgt := 25) dX3_init_47 (by decide) ?_
        exact ih (k + 1) _ _ (by omega) (by omega) hC hS hn hf (fun j hj => by
          by_cases e : j = k
          · subst e; rw [up_s]
          · rw [up_n _ _ e]; exact hfl j (by omega)) (fun j hj => by
          by_cases e : j = k
          · subst e; exact hrep.kept (fun i hi => u3.2.1 _ (by omega))
          · exact ((hly j (by omega)).kept (fun i hi => u2.2.1 _ (by omega))).nf hN40 (by omega) |>.kept (fun i hi => u3.2.1 _ (by omega))) (fun b hb => (u3.2.1 b (by omega)).trans ((hN40.1 b (by omega)).trans ((u2.2.1 b (by omega)).trans (hX b hb))))
  refine J_aload_n dX3_init_0 rfl rfl ?_
  refine J_objInit dX3_init_1 kX3_3 (Nat.le_of_ble_eq_true rfl) (by decide) ?_
  refine J_aload_n dX3_init_4 rfl rfl ?_
  refine J_bipush (v := nI 9) dX3_init_5 (by decide) ?_
  refine K_anew (N := 9) (kb := 81) (sb := 711) dX3_init_7 clX3_9 (by decide) (Nat.le_of_ble_eq_true rfl) hf (fun w1 u1 => ?_)
  replace hC := (u1.2.1 _ (by omega)).trans hC
  have e1 : 100 + w.2.1 = a + 1 := by omega
  rw [e1]
  have c1 := e1 ▸ u1.1
  replace hn : w1.2.1 = n + 1 := by rw [u1.2.2.1]; omega
  replace hf := u1.2.2.2
  refine K_putR dX3_init_10 fX3_11 (Or.inr ⟨rfl, rfl⟩) hC (Nat.le_of_ble_eq_true rfl) (by first | exact Or.inl ⟨_, rfl⟩ | exact Or.inr ⟨_, rfl⟩) (fun w2 u2 => ?_)
  replace c1 := (u2.2.1 _ (by omega)).trans c1
  replace hC := u2.1
  replace hn := (congrArg Prod.fst u2.2.2).trans hn
  replace hf := (congrArg Prod.snd u2.2.2).trans hf
  replace hC : w2.1 a = .inr (3, [.ref (a + 1), .int 0, .int 0]) := hC
  refine J_aload_n dX3_init_13 rfl rfl ?_
  refine J_iconst (v := nI 0) dX3_init_14 (by decide) ?_
  refine K_putI dX3_init_15 fX3_17 (Or.inl rfl) hC (Nat.le_of_ble_eq_true rfl) (fun w3 u3 => ?_)
  replace c1 := (u3.2.1 _ (by omega)).trans c1
  replace hC := u3.1
  replace hn := (congrArg Prod.fst u3.2.2).trans hn
  replace hf := (congrArg Prod.snd u3.2.2).trans hf
  replace hC : w3.1 a = .inr (3, [.ref (a + 1), .int (nI 0), .int 0]) := hC
  refine J_aload_n dX3_init_18 rfl rfl ?_
  refine J_iconst (v := nI 0) dX3_init_19 (by decide) ?_
  refine K_putI dX3_init_20 fX3_21 (Or.inl rfl) hC (Nat.le_of_ble_eq_true rfl) (fun w4 u4 => ?_)
  replace c1 := (u4.2.1 _ (by omega)).trans c1
  replace hC := u4.1
  replace hn := (congrArg Prod.fst u4.2.2).trans hn
  replace hf := (congrArg Prod.snd u4.2.2).trans hf
  replace hC : w4.1 a = .inr (3, [.ref (a + 1), .int (nI 0), .int (nI 0)]) := hC
  refine J_iconst (v := nI 0) dX3_init_23 (by decide) ?_
  refine J_istore_n dX3_init_24 rfl (by decide) rfl ?_
  exact loop 9 0 _ _ (by omega) (by omega) hC c1 hn hf (fun j hj => by omega) (fun j hj => by omega) (fun b hb => (u4.2.1 b (by omega)).trans ((u3.2.1 b (by omega)).trans ((u2.2.1 b (by omega)).trans ((u1.2.1 b (by omega)).trans (rfl)))))

end JINIT

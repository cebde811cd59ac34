/-! WHAT IS MADE: the constructors -/
section JINIT
theorem SFZ_bl : ("SofaRailway$Command", "BLOCK", "LSofaRailway$Command;", (.ref 10 : Value)) ∈ SFZ := List.mem_of_getElem? (i := 2) rfl
set_option maxHeartbeats 8000000 in
theorem c_X2_init {w : Wd} {a n : Nat} (hC : w.1 a = .inr (2, [.null, .int 0, .int 0, .int 0, .null, .int 0, .int 0])) (hn : w.2.1 = n) (ha : a + 1 = 100 + n) (hf : w.2.2 = true) : MC 2 mX2_init 1 60 [.ref a] w (RP (fun v w' => v = none ∧ NwF w w' a 2 ∧ RepD w' a (fun _ => 0) 0 0 false 10 (nI 0) (nI 0))) := by
  have hX : ∀ b : Nat, b < a ∨ a + 2 ≤ b → w.1 b = w.1 b := fun _ _ => rfl
  have hn0 := hn
  refine MC_j pnX2 rfl rfl rfl (Or.inr (fun E w h => RP_no E w h)) ?_
  show J 2 mX2_init 0 [some (.ref a)] [] w 1 60 _
  refine J_aload_n dX2_init_0 rfl rfl ?_
  refine J_objInit dX2_init_1 kX2_3 (Nat.le_of_ble_eq_true rfl) (by decide) ?_
  refine J_aload_n dX2_init_4 rfl rfl ?_
  refine J_bipush (v := nI 60) dX2_init_5 (by decide) ?_
  refine K_newa_char (N := 60) (kb := 0) (sb := 0) dX2_init_7 ac_char (by decide) (Nat.le_of_ble_eq_true rfl) hf (fun w1 u1 => ?_)
  replace hC := (u1.2.1 _ (by omega)).trans hC
  have e1 : 100 + w.2.1 = a + 1 := by omega
  rw [e1]
  have c1 := e1 ▸ u1.1
  replace hX : ∀ b : Nat, b < a ∨ a + 2 ≤ b → w1.1 b = w.1 b := fun b hb => (u1.2.1 b (by omega)).trans (hX b hb)
  clear e1
  replace hn : w1.2.1 = n + 1 := by rw [u1.2.2.1]; omega
  replace hf := u1.2.2.2
  refine K_putR dX2_init_9 fX2_9 (Or.inr ⟨rfl, rfl⟩) hC (Nat.le_of_ble_eq_true rfl) (by first | exact Or.inl ⟨_, rfl⟩ | exact Or.inr ⟨_, rfl⟩) (fun w2 u2 => ?_)
  replace c1 := (u2.2.1 _ (by omega)).trans c1
  replace hC := u2.1
  replace hX : ∀ b : Nat, b < a ∨ a + 2 ≤ b → w2.1 b = w.1 b := fun b hb => (u2.2.1 b (by omega)).trans (hX b hb)
  replace hn := (congrArg Prod.fst u2.2.2).trans hn
  replace hf := (congrArg Prod.snd u2.2.2).trans hf
  replace hC : w2.1 a = .inr (2, [.ref (a + 1), .int 0, .int 0, .int 0, .null, .int 0, .int 0]) := hC
  refine J_aload_n dX2_init_12 rfl rfl ?_
  refine J_iconst (v := nI 0) dX2_init_13 (by decide) ?_
  refine K_putI dX2_init_14 fX2_15 (Or.inl rfl) hC (Nat.le_of_ble_eq_true rfl) (fun w3 u3 => ?_)
  replace c1 := (u3.2.1 _ (by omega)).trans c1
  replace hC := u3.1
  replace hX : ∀ b : Nat, b < a ∨ a + 2 ≤ b → w3.1 b = w.1 b := fun b hb => (u3.2.1 b (by omega)).trans (hX b hb)
  replace hn := (congrArg Prod.fst u3.2.2).trans hn
  replace hf := (congrArg Prod.snd u3.2.2).trans hf
  replace hC : w3.1 a = .inr (2, [.ref (a + 1), .int (nI 0), .int 0, .int 0, .null, .int 0, .int 0]) := hC
  refine J_aload_n dX2_init_17 rfl rfl ?_
  refine J_iconst (v := nI 0) dX2_init_18 (by decide) ?_
  refine K_putI dX2_init_19 fX2_19 (Or.inl rfl) hC (Nat.le_of_ble_eq_true rfl) (fun w4 u4 => ?_)
  replace c1 := (u4.2.1 _ (by omega)).trans c1
  replace hC := u4.1
  replace hX : ∀ b : Nat, b < a ∨ a + 2 ≤ b → w4.1 b = w.1 b := fun b hb => (u4.2.1 b (by omega)).trans (hX b hb)
  replace hn := (congrArg Prod.fst u4.2.2).trans hn
  replace hf := (congrArg Prod.snd u4.2.2).trans hf
  replace hC : w4.1 a = .inr (2, [.ref (a + 1), .int (nI 0), .int (nI 0), .int 0, .null, .int 0, .int 0]) := hC
  refine J_aload_n dX2_init_22 rfl rfl ?_
  refine J_iconst (v := nI 0) dX2_init_23 (by decide) ?_
  refine K_putZ dX2_init_24 fX2_22 (Or.inl rfl) hC (Nat.le_of_ble_eq_true rfl) (Or.inl rfl) (fun w5 u5 => ?_)
  replace c1 := (u5.2.1 _ (by omega)).trans c1
  replace hC := u5.1
  replace hX : ∀ b : Nat, b < a ∨ a + 2 ≤ b → w5.1 b = w.1 b := fun b hb => (u5.2.1 b (by omega)).trans (hX b hb)
  replace hn := (congrArg Prod.fst u5.2.2).trans hn
  replace hf := (congrArg Prod.snd u5.2.2).trans hf
  replace hC : w5.1 a = .inr (2, [.ref (a + 1), .int (nI 0), .int (nI 0), .int (nI 0), .null, .int 0, .int 0]) := hC
  refine J_aload_n dX2_init_27 rfl rfl ?_
  refine J_getstatic dX2_init_28 SFZ_bl (sv_r (by omega)) gX2_26 ?_
  refine K_putR dX2_init_31 fX2_32 (Or.inl rfl) hC (Nat.le_of_ble_eq_true rfl) (by first | exact Or.inl ⟨_, rfl⟩ | exact Or.inr ⟨_, rfl⟩) (fun w6 u6 => ?_)
  replace c1 := (u6.2.1 _ (by omega)).trans c1
  replace hC := u6.1
  replace hX : ∀ b : Nat, b < a ∨ a + 2 ≤ b → w6.1 b = w.1 b := fun b hb => (u6.2.1 b (by omega)).trans (hX b hb)
  replace hn := (congrArg Prod.fst u6.2.2).trans hn
  replace hf := (congrArg Prod.snd u6.2.2).trans hf
  replace hC : w6.1 a = .inr (2, [.ref (a + 1), .int (nI 0), .int (nI 0), .int (nI 0), .ref 10, .int 0, .int 0]) := hC
  refine J_aload_n dX2_init_34 rfl rfl ?_
  refine J_iconst (v := nI 0) dX2_init_35 (by decide) ?_
  refine K_putI dX2_init_36 fX2_35 (Or.inl rfl) hC (Nat.le_of_ble_eq_true rfl) (fun w7 u7 => ?_)
  replace c1 := (u7.2.1 _ (by omega)).trans c1
  replace hC := u7.1
  replace hX : ∀ b : Nat, b < a ∨ a + 2 ≤ b → w7.1 b = w.1 b := fun b hb => (u7.2.1 b (by omega)).trans (hX b hb)
  replace hn := (congrArg Prod.fst u7.2.2).trans hn
  replace hf := (congrArg Prod.snd u7.2.2).trans hf
  replace hC : w7.1 a = .inr (2, [.ref (a + 1), .int (nI 0), .int (nI 0), .int (nI 0), .ref 10, .int (nI 0), .int 0]) := hC
  refine J_aload_n dX2_init_39 rfl rfl ?_
  refine J_iconst (v := nI 0) dX2_init_40 (by decide) ?_
  refine K_putI dX2_init_41 fX2_38 (Or.inl rfl) hC (Nat.le_of_ble_eq_true rfl) (fun w8 u8 => ?_)
  replace c1 := (u8.2.1 _ (by omega)).trans c1
  replace hC := u8.1
  replace hX : ∀ b : Nat, b < a ∨ a + 2 ≤ b → w8.1 b = w.1 b := fun b hb => (u8.2.1 b (by omega)).trans (hX b hb)
  replace hn := (congrArg Prod.fst u8.2.2).trans hn
  replace hf := (congrArg Prod.snd u8.2.2).trans hf
  replace hC : w8.1 a = .inr (2, [.ref (a + 1), .int (nI 0), .int (nI 0), .int (nI 0), .ref 10, .int (nI 0), .int (nI 0)]) := hC
  exact J_return dX2_init_44 rfl (RP_i ⟨rfl, ⟨hX, by omega, hf⟩, _, hC, c1, Nat.zero_le _, fun j hj => absurd hj (Nat.not_lt_zero j)⟩)

end JINIT

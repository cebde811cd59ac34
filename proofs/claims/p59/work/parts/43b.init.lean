/-! WHAT IS MADE: the constructors -/
section JINIT
set_option maxHeartbeats 8000000 in
theorem c_X4_init {w : Wd} {a n : Nat} (hC : w.1 a = .inr (4, [.int 0, .int 0, .int 0, .int 0, .int 0, .int 0, .int 0, .null, .null, .null, .null, .null, .null, .null, .null])) (hn : w.2.1 = n) (ha : a + 1 = 100 + n) (hf : w.2.2 = true) : MC 2 mX4_init 8 64 [.ref a] w (RP (fun v w' => v = none ∧ NwF w w' a 9 ∧ RepC w' a S0)) := by
  have hX : ∀ b : Nat, b < a ∨ a + 9 ≤ b → w.1 b = w.1 b := fun _ _ => rfl
  have hn0 := hn
  refine MC_j pnX4 rfl rfl rfl (Or.inr (fun E w h => RP_no E w h)) ?_
  show J 2 mX4_init 0 [some (.ref a)] [] w 8 64 _
  refine J_aload_n dX4_init_0 rfl rfl ?_
  refine J_objInit dX4_init_1 kX4_3 (Nat.le_of_ble_eq_true rfl) (by decide) ?_
  refine J_aload_n dX4_init_4 rfl rfl ?_
  refine J_iconst (v := nI 0) dX4_init_5 (by decide) ?_
  refine K_putI dX4_init_6 fX4_9 (Or.inl rfl) hC (Nat.le_of_ble_eq_true rfl) (fun w1 u1 => ?_)
  replace hC := u1.1
  replace hX : ∀ b : Nat, b < a ∨ a + 9 ≤ b → w1.1 b = w.1 b := fun b hb => (u1.2.1 b (by omega)).trans (hX b hb)
  replace hn := (congrArg Prod.fst u1.2.2).trans hn
  replace hf := (congrArg Prod.snd u1.2.2).trans hf
  replace hC : w1.1 a = .inr (4, [.int (nI 0), .int 0, .int 0, .int 0, .int 0, .int 0, .int 0, .null, .null, .null, .null, .null, .null, .null, .null]) := hC
  refine J_aload_n dX4_init_9 rfl rfl ?_
  refine J_iconst (v := nI 0) dX4_init_10 (by decide) ?_
  refine K_putI dX4_init_11 fX4_15 (Or.inl rfl) hC (Nat.le_of_ble_eq_true rfl) (fun w2 u2 => ?_)
  replace hC := u2.1
  replace hX : ∀ b : Nat, b < a ∨ a + 9 ≤ b → w2.1 b = w.1 b := fun b hb => (u2.2.1 b (by omega)).trans (hX b hb)
  replace hn := (congrArg Prod.fst u2.2.2).trans hn
  replace hf := (congrArg Prod.snd u2.2.2).trans hf
  replace hC : w2.1 a = .inr (4, [.int (nI 0), .int (nI 0), .int 0, .int 0, .int 0, .int 0, .int 0, .null, .null, .null, .null, .null, .null, .null, .null]) := hC
  refine J_aload_n dX4_init_14 rfl rfl ?_
  refine J_iconst (v := nI 0) dX4_init_15 (by decide) ?_
  refine K_putI dX4_init_16 fX4_18 (Or.inl rfl) hC (Nat.le_of_ble_eq_true rfl) (fun w3 u3 => ?_)
  replace hC := u3.1
  replace hX : ∀ b : Nat, b < a ∨ a + 9 ≤ b → w3.1 b = w.1 b := fun b hb => (u3.2.1 b (by omega)).trans (hX b hb)
  replace hn := (congrArg Prod.fst u3.2.2).trans hn
  replace hf := (congrArg Prod.snd u3.2.2).trans hf
  replace hC : w3.1 a = .inr (4, [.int (nI 0), .int (nI 0), .int (nI 0), .int 0, .int 0, .int 0, .int 0, .null, .null, .null, .null, .null, .null, .null, .null]) := hC
  refine J_aload_n dX4_init_19 rfl rfl ?_
  refine J_iconst (v := nI 0) dX4_init_20 (by decide) ?_
  refine K_putI dX4_init_21 fX4_21 (Or.inl rfl) hC (Nat.le_of_ble_eq_true rfl) (fun w4 u4 => ?_)
  replace hC := u4.1
  replace hX : ∀ b : Nat, b < a ∨ a + 9 ≤ b → w4.1 b = w.1 b := fun b hb => (u4.2.1 b (by omega)).trans (hX b hb)
  replace hn := (congrArg Prod.fst u4.2.2).trans hn
  replace hf := (congrArg Prod.snd u4.2.2).trans hf
  replace hC : w4.1 a = .inr (4, [.int (nI 0), .int (nI 0), .int (nI 0), .int (nI 0), .int 0, .int 0, .int 0, .null, .null, .null, .null, .null, .null, .null, .null]) := hC
  refine J_aload_n dX4_init_24 rfl rfl ?_
  refine J_iconst (v := nI 0) dX4_init_25 (by decide) ?_
  refine K_putI dX4_init_26 fX4_24 (Or.inl rfl) hC (Nat.le_of_ble_eq_true rfl) (fun w5 u5 => ?_)
  replace hC := u5.1
  replace hX : ∀ b : Nat, b < a ∨ a + 9 ≤ b → w5.1 b = w.1 b := fun b hb => (u5.2.1 b (by omega)).trans (hX b hb)
  replace hn := (congrArg Prod.fst u5.2.2).trans hn
  replace hf := (congrArg Prod.snd u5.2.2).trans hf
  replace hC : w5.1 a = .inr (4, [.int (nI 0), .int (nI 0), .int (nI 0), .int (nI 0), .int (nI 0), .int 0, .int 0, .null, .null, .null, .null, .null, .null, .null, .null]) := hC
  refine J_aload_n dX4_init_29 rfl rfl ?_
  refine J_iconst (v := nI 0) dX4_init_30 (by decide) ?_
  refine K_putI dX4_init_31 fX4_27 (Or.inl rfl) hC (Nat.le_of_ble_eq_true rfl) (fun w6 u6 => ?_)
  replace hC := u6.1
  replace hX : ∀ b : Nat, b < a ∨ a + 9 ≤ b → w6.1 b = w.1 b := fun b hb => (u6.2.1 b (by omega)).trans (hX b hb)
  replace hn := (congrArg Prod.fst u6.2.2).trans hn
  replace hf := (congrArg Prod.snd u6.2.2).trans hf
  replace hC : w6.1 a = .inr (4, [.int (nI 0), .int (nI 0), .int (nI 0), .int (nI 0), .int (nI 0), .int (nI 0), .int 0, .null, .null, .null, .null, .null, .null, .null, .null]) := hC
  refine J_aload_n dX4_init_34 rfl rfl ?_
  refine J_iconst (v := nI 0) dX4_init_35 (by decide) ?_
  refine K_putI dX4_init_36 fX4_30 (Or.inl rfl) hC (Nat.le_of_ble_eq_true rfl) (fun w7 u7 => ?_)
  replace hC := u7.1
  replace hX : ∀ b : Nat, b < a ∨ a + 9 ≤ b → w7.1 b = w.1 b := fun b hb => (u7.2.1 b (by omega)).trans (hX b hb)
  replace hn := (congrArg Prod.fst u7.2.2).trans hn
  replace hf := (congrArg Prod.snd u7.2.2).trans hf
  replace hC : w7.1 a = .inr (4, [.int (nI 0), .int (nI 0), .int (nI 0), .int (nI 0), .int (nI 0), .int (nI 0), .int (nI 0), .null, .null, .null, .null, .null, .null, .null, .null]) := hC
  refine J_aload_n dX4_init_39 rfl rfl ?_
  refine J_bipush (v := nI 14) dX4_init_40 (by decide) ?_
  refine K_newa_int (N := 14) (kb := 7) (sb := 50) dX4_init_42 ac_int (by decide) (Nat.le_of_ble_eq_true rfl) hf (fun w8 u8 => ?_)
  replace hC := (u8.2.1 _ (by omega)).trans hC
  have e8 : 100 + w7.2.1 = a + 1 := by omega
  rw [e8]
  have c8 := e8 ▸ u8.1
  replace hX : ∀ b : Nat, b < a ∨ a + 9 ≤ b → w8.1 b = w.1 b := fun b hb => (u8.2.1 b (by omega)).trans (hX b hb)
  clear e8
  replace hn : w8.2.1 = n + 1 := by rw [u8.2.2.1]; omega
  replace hf := u8.2.2.2
  refine K_putR dX4_init_44 fX4_33 (Or.inr ⟨rfl, rfl⟩) hC (Nat.le_of_ble_eq_true rfl) (by first | exact Or.inl ⟨_, rfl⟩ | exact Or.inr ⟨_, rfl⟩) (fun w9 u9 => ?_)
  replace c8 := (u9.2.1 _ (by omega)).trans c8
  replace hC := u9.1
  replace hX : ∀ b : Nat, b < a ∨ a + 9 ≤ b → w9.1 b = w.1 b := fun b hb => (u9.2.1 b (by omega)).trans (hX b hb)
  replace hn := (congrArg Prod.fst u9.2.2).trans hn
  replace hf := (congrArg Prod.snd u9.2.2).trans hf
  replace hC : w9.1 a = .inr (4, [.int (nI 0), .int (nI 0), .int (nI 0), .int (nI 0), .int (nI 0), .int (nI 0), .int (nI 0), .ref (a + 1), .null, .null, .null, .null, .null, .null, .null]) := hC
  refine J_aload_n dX4_init_47 rfl rfl ?_
  refine J_bipush (v := nI 14) dX4_init_48 (by decide) ?_
  refine K_newa_int (N := 14) (kb := 6) (sb := 36) dX4_init_50 ac_int (by decide) (Nat.le_of_ble_eq_true rfl) hf (fun w10 u10 => ?_)
  replace c8 := (u10.2.1 _ (by omega)).trans c8
  replace hC := (u10.2.1 _ (by omega)).trans hC
  have e10 : 100 + w9.2.1 = a + 2 := by omega
  rw [e10]
  have c10 := e10 ▸ u10.1
  replace hX : ∀ b : Nat, b < a ∨ a + 9 ≤ b → w10.1 b = w.1 b := fun b hb => (u10.2.1 b (by omega)).trans (hX b hb)
  clear e10
  replace hn : w10.2.1 = n + 2 := by rw [u10.2.2.1]; omega
  replace hf := u10.2.2.2
  refine K_putR dX4_init_52 fX4_37 (Or.inr ⟨rfl, rfl⟩) hC (Nat.le_of_ble_eq_true rfl) (by first | exact Or.inl ⟨_, rfl⟩ | exact Or.inr ⟨_, rfl⟩) (fun w11 u11 => ?_)
  replace c10 := (u11.2.1 _ (by omega)).trans c10
  replace c8 := (u11.2.1 _ (by omega)).trans c8
  replace hC := u11.1
  replace hX : ∀ b : Nat, b < a ∨ a + 9 ≤ b → w11.1 b = w.1 b := fun b hb => (u11.2.1 b (by omega)).trans (hX b hb)
  replace hn := (congrArg Prod.fst u11.2.2).trans hn
  replace hf := (congrArg Prod.snd u11.2.2).trans hf
  replace hC : w11.1 a = .inr (4, [.int (nI 0), .int (nI 0), .int (nI 0), .int (nI 0), .int (nI 0), .int (nI 0), .int (nI 0), .ref (a + 1), .ref (a + 2), .null, .null, .null, .null, .null, .null]) := hC
  refine J_aload_n dX4_init_55 rfl rfl ?_
  refine J_bipush (v := nI 6) dX4_init_56 (by decide) ?_
  refine K_newa_int (N := 6) (kb := 5) (sb := 30) dX4_init_58 ac_int (by decide) (Nat.le_of_ble_eq_true rfl) hf (fun w12 u12 => ?_)
  replace c10 := (u12.2.1 _ (by omega)).trans c10
  replace c8 := (u12.2.1 _ (by omega)).trans c8
  replace hC := (u12.2.1 _ (by omega)).trans hC
  have e12 : 100 + w11.2.1 = a + 3 := by omega
  rw [e12]
  have c12 := e12 ▸ u12.1
  replace hX : ∀ b : Nat, b < a ∨ a + 9 ≤ b → w12.1 b = w.1 b := fun b hb => (u12.2.1 b (by omega)).trans (hX b hb)
  clear e12
  replace hn : w12.2.1 = n + 3 := by rw [u12.2.2.1]; omega
  replace hf := u12.2.2.2
  refine K_putR dX4_init_60 fX4_40 (Or.inr ⟨rfl, rfl⟩) hC (Nat.le_of_ble_eq_true rfl) (by first | exact Or.inl ⟨_, rfl⟩ | exact Or.inr ⟨_, rfl⟩) (fun w13 u13 => ?_)
  replace c10 := (u13.2.1 _ (by omega)).trans c10
  replace c12 := (u13.2.1 _ (by omega)).trans c12
  replace c8 := (u13.2.1 _ (by omega)).trans c8
  replace hC := u13.1
  replace hX : ∀ b : Nat, b < a ∨ a + 9 ≤ b → w13.1 b = w.1 b := fun b hb => (u13.2.1 b (by omega)).trans (hX b hb)
  replace hn := (congrArg Prod.fst u13.2.2).trans hn
  replace hf := (congrArg Prod.snd u13.2.2).trans hf
  replace hC : w13.1 a = .inr (4, [.int (nI 0), .int (nI 0), .int (nI 0), .int (nI 0), .int (nI 0), .int (nI 0), .int (nI 0), .ref (a + 1), .ref (a + 2), .ref (a + 3), .null, .null, .null, .null, .null]) := hC
  refine J_aload_n dX4_init_63 rfl rfl ?_
  refine J_bipush (v := nI 6) dX4_init_64 (by decide) ?_
  refine K_newa_int (N := 6) (kb := 4) (sb := 24) dX4_init_66 ac_int (by decide) (Nat.le_of_ble_eq_true rfl) hf (fun w14 u14 => ?_)
  replace c10 := (u14.2.1 _ (by omega)).trans c10
  replace c12 := (u14.2.1 _ (by omega)).trans c12
  replace c8 := (u14.2.1 _ (by omega)).trans c8
  replace hC := (u14.2.1 _ (by omega)).trans hC
  have e14 : 100 + w13.2.1 = a + 4 := by omega
  rw [e14]
  have c14 := e14 ▸ u14.1
  replace hX : ∀ b : Nat, b < a ∨ a + 9 ≤ b → w14.1 b = w.1 b := fun b hb => (u14.2.1 b (by omega)).trans (hX b hb)
  clear e14
  replace hn : w14.2.1 = n + 4 := by rw [u14.2.2.1]; omega
  replace hf := u14.2.2.2
  refine K_putR dX4_init_68 fX4_43 (Or.inr ⟨rfl, rfl⟩) hC (Nat.le_of_ble_eq_true rfl) (by first | exact Or.inl ⟨_, rfl⟩ | exact Or.inr ⟨_, rfl⟩) (fun w15 u15 => ?_)
  replace c10 := (u15.2.1 _ (by omega)).trans c10
  replace c12 := (u15.2.1 _ (by omega)).trans c12
  replace c14 := (u15.2.1 _ (by omega)).trans c14
  replace c8 := (u15.2.1 _ (by omega)).trans c8
  replace hC := u15.1
  replace hX : ∀ b : Nat, b < a ∨ a + 9 ≤ b → w15.1 b = w.1 b := fun b hb => (u15.2.1 b (by omega)).trans (hX b hb)
  replace hn := (congrArg Prod.fst u15.2.2).trans hn
  replace hf := (congrArg Prod.snd u15.2.2).trans hf
  replace hC : w15.1 a = .inr (4, [.int (nI 0), .int (nI 0), .int (nI 0), .int (nI 0), .int (nI 0), .int (nI 0), .int (nI 0), .ref (a + 1), .ref (a + 2), .ref (a + 3), .ref (a + 4), .null, .null, .null, .null]) := hC
  refine J_aload_n dX4_init_71 rfl rfl ?_
  refine J_bipush (v := nI 6) dX4_init_72 (by decide) ?_
  refine K_newa_int (N := 6) (kb := 3) (sb := 18) dX4_init_74 ac_int (by decide) (Nat.le_of_ble_eq_true rfl) hf (fun w16 u16 => ?_)
  replace c10 := (u16.2.1 _ (by omega)).trans c10
  replace c12 := (u16.2.1 _ (by omega)).trans c12
  replace c14 := (u16.2.1 _ (by omega)).trans c14
  replace c8 := (u16.2.1 _ (by omega)).trans c8
  replace hC := (u16.2.1 _ (by omega)).trans hC
  have e16 : 100 + w15.2.1 = a + 5 := by omega
  rw [e16]
  have c16 := e16 ▸ u16.1
  replace hX : ∀ b : Nat, b < a ∨ a + 9 ≤ b → w16.1 b = w.1 b := fun b hb => (u16.2.1 b (by omega)).trans (hX b hb)
  clear e16
  replace hn : w16.2.1 = n + 5 := by rw [u16.2.2.1]; omega
  replace hf := u16.2.2.2
  refine K_putR dX4_init_76 fX4_46 (Or.inr ⟨rfl, rfl⟩) hC (Nat.le_of_ble_eq_true rfl) (by first | exact Or.inl ⟨_, rfl⟩ | exact Or.inr ⟨_, rfl⟩) (fun w17 u17 => ?_)
  replace c10 := (u17.2.1 _ (by omega)).trans c10
  replace c12 := (u17.2.1 _ (by omega)).trans c12
  replace c14 := (u17.2.1 _ (by omega)).trans c14
  replace c16 := (u17.2.1 _ (by omega)).trans c16
  replace c8 := (u17.2.1 _ (by omega)).trans c8
  replace hC := u17.1
  replace hX : ∀ b : Nat, b < a ∨ a + 9 ≤ b → w17.1 b = w.1 b := fun b hb => (u17.2.1 b (by omega)).trans (hX b hb)
  replace hn := (congrArg Prod.fst u17.2.2).trans hn
  replace hf := (congrArg Prod.snd u17.2.2).trans hf
  replace hC : w17.1 a = .inr (4, [.int (nI 0), .int (nI 0), .int (nI 0), .int (nI 0), .int (nI 0), .int (nI 0), .int (nI 0), .ref (a + 1), .ref (a + 2), .ref (a + 3), .ref (a + 4), .ref (a + 5), .null, .null, .null]) := hC
  refine J_aload_n dX4_init_79 rfl rfl ?_
  refine J_bipush (v := nI 6) dX4_init_80 (by decide) ?_
  refine K_newa_int (N := 6) (kb := 2) (sb := 12) dX4_init_82 ac_int (by decide) (Nat.le_of_ble_eq_true rfl) hf (fun w18 u18 => ?_)
  replace c10 := (u18.2.1 _ (by omega)).trans c10
  replace c12 := (u18.2.1 _ (by omega)).trans c12
  replace c14 := (u18.2.1 _ (by omega)).trans c14
  replace c16 := (u18.2.1 _ (by omega)).trans c16
  replace c8 := (u18.2.1 _ (by omega)).trans c8
  replace hC := (u18.2.1 _ (by omega)).trans hC
  have e18 : 100 + w17.2.1 = a + 6 := by omega
  rw [e18]
  have c18 := e18 ▸ u18.1
  replace hX : ∀ b : Nat, b < a ∨ a + 9 ≤ b → w18.1 b = w.1 b := fun b hb => (u18.2.1 b (by omega)).trans (hX b hb)
  clear e18
  replace hn : w18.2.1 = n + 6 := by rw [u18.2.2.1]; omega
  replace hf := u18.2.2.2
  refine K_putR dX4_init_84 fX4_49 (Or.inr ⟨rfl, rfl⟩) hC (Nat.le_of_ble_eq_true rfl) (by first | exact Or.inl ⟨_, rfl⟩ | exact Or.inr ⟨_, rfl⟩) (fun w19 u19 => ?_)
  replace c10 := (u19.2.1 _ (by omega)).trans c10
  replace c12 := (u19.2.1 _ (by omega)).trans c12
  replace c14 := (u19.2.1 _ (by omega)).trans c14
  replace c16 := (u19.2.1 _ (by omega)).trans c16
  replace c18 := (u19.2.1 _ (by omega)).trans c18
  replace c8 := (u19.2.1 _ (by omega)).trans c8
  replace hC := u19.1
  replace hX : ∀ b : Nat, b < a ∨ a + 9 ≤ b → w19.1 b = w.1 b := fun b hb => (u19.2.1 b (by omega)).trans (hX b hb)
  replace hn := (congrArg Prod.fst u19.2.2).trans hn
  replace hf := (congrArg Prod.snd u19.2.2).trans hf
  replace hC : w19.1 a = .inr (4, [.int (nI 0), .int (nI 0), .int (nI 0), .int (nI 0), .int (nI 0), .int (nI 0), .int (nI 0), .ref (a + 1), .ref (a + 2), .ref (a + 3), .ref (a + 4), .ref (a + 5), .ref (a + 6), .null, .null]) := hC
  refine J_aload_n dX4_init_87 rfl rfl ?_
  refine J_bipush (v := nI 6) dX4_init_88 (by decide) ?_
  refine K_newa_int (N := 6) (kb := 1) (sb := 6) dX4_init_90 ac_int (by decide) (Nat.le_of_ble_eq_true rfl) hf (fun w20 u20 => ?_)
  replace c10 := (u20.2.1 _ (by omega)).trans c10
  replace c12 := (u20.2.1 _ (by omega)).trans c12
  replace c14 := (u20.2.1 _ (by omega)).trans c14
  replace c16 := (u20.2.1 _ (by omega)).trans c16
  replace c18 := (u20.2.1 _ (by omega)).trans c18
  replace c8 := (u20.2.1 _ (by omega)).trans c8
  replace hC := (u20.2.1 _ (by omega)).trans hC
  have e20 : 100 + w19.2.1 = a + 7 := by omega
  rw [e20]
  have c20 := e20 ▸ u20.1
  replace hX : ∀ b : Nat, b < a ∨ a + 9 ≤ b → w20.1 b = w.1 b := fun b hb => (u20.2.1 b (by omega)).trans (hX b hb)
  clear e20
  replace hn : w20.2.1 = n + 7 := by rw [u20.2.2.1]; omega
  replace hf := u20.2.2.2
  refine K_putR dX4_init_92 fX4_52 (Or.inr ⟨rfl, rfl⟩) hC (Nat.le_of_ble_eq_true rfl) (by first | exact Or.inl ⟨_, rfl⟩ | exact Or.inr ⟨_, rfl⟩) (fun w21 u21 => ?_)
  replace c10 := (u21.2.1 _ (by omega)).trans c10
  replace c12 := (u21.2.1 _ (by omega)).trans c12
  replace c14 := (u21.2.1 _ (by omega)).trans c14
  replace c16 := (u21.2.1 _ (by omega)).trans c16
  replace c18 := (u21.2.1 _ (by omega)).trans c18
  replace c20 := (u21.2.1 _ (by omega)).trans c20
  replace c8 := (u21.2.1 _ (by omega)).trans c8
  replace hC := u21.1
  replace hX : ∀ b : Nat, b < a ∨ a + 9 ≤ b → w21.1 b = w.1 b := fun b hb => (u21.2.1 b (by omega)).trans (hX b hb)
  replace hn := (congrArg Prod.fst u21.2.2).trans hn
  replace hf := (congrArg Prod.snd u21.2.2).trans hf
  replace hC : w21.1 a = .inr (4, [.int (nI 0), .int (nI 0), .int (nI 0), .int (nI 0), .int (nI 0), .int (nI 0), .int (nI 0), .ref (a + 1), .ref (a + 2), .ref (a + 3), .ref (a + 4), .ref (a + 5), .ref (a + 6), .ref (a + 7), .null]) := hC
  refine J_aload_n dX4_init_95 rfl rfl ?_
  refine J_bipush (v := nI 6) dX4_init_96 (by decide) ?_
  refine K_newa_int (N := 6) (kb := 0) (sb := 0) dX4_init_98 ac_int (by decide) (Nat.le_of_ble_eq_true rfl) hf (fun w22 u22 => ?_)
  replace c10 := (u22.2.1 _ (by omega)).trans c10
  replace c12 := (u22.2.1 _ (by omega)).trans c12
  replace c14 := (u22.2.1 _ (by omega)).trans c14
  replace c16 := (u22.2.1 _ (by omega)).trans c16
  replace c18 := (u22.2.1 _ (by omega)).trans c18
  replace c20 := (u22.2.1 _ (by omega)).trans c20
  replace c8 := (u22.2.1 _ (by omega)).trans c8
  replace hC := (u22.2.1 _ (by omega)).trans hC
  have e22 : 100 + w21.2.1 = a + 8 := by omega
  rw [e22]
  have c22 := e22 ▸ u22.1
  replace hX : ∀ b : Nat, b < a ∨ a + 9 ≤ b → w22.1 b = w.1 b := fun b hb => (u22.2.1 b (by omega)).trans (hX b hb)
  clear e22
  replace hn : w22.2.1 = n + 8 := by rw [u22.2.2.1]; omega
  replace hf := u22.2.2.2
  refine K_putR dX4_init_100 fX4_55 (Or.inr ⟨rfl, rfl⟩) hC (Nat.le_of_ble_eq_true rfl) (by first | exact Or.inl ⟨_, rfl⟩ | exact Or.inr ⟨_, rfl⟩) (fun w23 u23 => ?_)
  replace c10 := (u23.2.1 _ (by omega)).trans c10
  replace c12 := (u23.2.1 _ (by omega)).trans c12
  replace c14 := (u23.2.1 _ (by omega)).trans c14
  replace c16 := (u23.2.1 _ (by omega)).trans c16
  replace c18 := (u23.2.1 _ (by omega)).trans c18
  replace c20 := (u23.2.1 _ (by omega)).trans c20
  replace c22 := (u23.2.1 _ (by omega)).trans c22
  replace c8 := (u23.2.1 _ (by omega)).trans c8
  replace hC := u23.1
  replace hX : ∀ b : Nat, b < a ∨ a + 9 ≤ b → w23.1 b = w.1 b := fun b hb => (u23.2.1 b (by omega)).trans (hX b hb)
  replace hn := (congrArg Prod.fst u23.2.2).trans hn
  replace hf := (congrArg Prod.snd u23.2.2).trans hf
  replace hC : w23.1 a = .inr (4, [.int (nI 0), .int (nI 0), .int (nI 0), .int (nI 0), .int (nI 0), .int (nI 0), .int (nI 0), .ref (a + 1), .ref (a + 2), .ref (a + 3), .ref (a + 4), .ref (a + 5), .ref (a + 6), .ref (a + 7), .ref (a + 8)]) := hC
  exact J_return dX4_init_103 rfl (RP_i ⟨rfl, ⟨hX, by omega, hf⟩, nI 0, nI 0, nI 0, _, _, _, _, _, _, _, _, hC, ⟨c8, c10, c12, c14, c16, c18, c20, c22⟩, ⟨bits_0, bits_0, bits_0⟩, (fun b hb => absurd hb (Nat.not_lt_zero b)), (fun b hb => bits_0), (fun t ht => absurd ht (Nat.not_lt_zero t)), wf_S0⟩)

set_option maxHeartbeats 8000000 in
theorem c_X6_init {w : Wd} {a n : Nat} (hC : w.1 a = .inr (6, [.null, .null, .null])) (hn : w.2.1 = n) (ha : a + 1 = 100 + n) (hf : w.2.2 = true) : MC 2 mX6_init 3 42 [.ref a] w (RP (fun v w' => v = none ∧ NwF w w' a 4 ∧ RepR w' a)) := by
  have hX : ∀ b : Nat, b < a ∨ a + 4 ≤ b → w.1 b = w.1 b := fun _ _ => rfl
  have hn0 := hn
  refine MC_j pnX6 rfl rfl rfl (Or.inr (fun E w h => RP_no E w h)) ?_
  show J 2 mX6_init 0 [some (.ref a)] [] w 3 42 _
  refine J_aload_n dX6_init_0 rfl rfl ?_
  refine J_objInit dX6_init_1 kX6_3 (Nat.le_of_ble_eq_true rfl) (by decide) ?_
  refine J_aload_n dX6_init_4 rfl rfl ?_
  refine J_bipush (v := nI 14) dX6_init_5 (by decide) ?_
  refine K_newa_int (N := 14) (kb := 2) (sb := 28) dX6_init_7 ac_int (by decide) (Nat.le_of_ble_eq_true rfl) hf (fun w1 u1 => ?_)
  replace hC := (u1.2.1 _ (by omega)).trans hC
  have e1 : 100 + w.2.1 = a + 1 := by omega
  rw [e1]
  have c1 := e1 ▸ u1.1
  replace hX : ∀ b : Nat, b < a ∨ a + 4 ≤ b → w1.1 b = w.1 b := fun b hb => (u1.2.1 b (by omega)).trans (hX b hb)
  clear e1
  replace hn : w1.2.1 = n + 1 := by rw [u1.2.2.1]; omega
  replace hf := u1.2.2.2
  refine K_putR dX6_init_9 fX6_9 (Or.inr ⟨rfl, rfl⟩) hC (Nat.le_of_ble_eq_true rfl) (by first | exact Or.inl ⟨_, rfl⟩ | exact Or.inr ⟨_, rfl⟩) (fun w2 u2 => ?_)
  replace c1 := (u2.2.1 _ (by omega)).trans c1
  replace hC := u2.1
  replace hX : ∀ b : Nat, b < a ∨ a + 4 ≤ b → w2.1 b = w.1 b := fun b hb => (u2.2.1 b (by omega)).trans (hX b hb)
  replace hn := (congrArg Prod.fst u2.2.2).trans hn
  replace hf := (congrArg Prod.snd u2.2.2).trans hf
  replace hC : w2.1 a = .inr (6, [.ref (a + 1), .null, .null]) := hC
  refine J_aload_n dX6_init_12 rfl rfl ?_
  refine J_bipush (v := nI 14) dX6_init_13 (by decide) ?_
  refine K_newa_int (N := 14) (kb := 1) (sb := 14) dX6_init_15 ac_int (by decide) (Nat.le_of_ble_eq_true rfl) hf (fun w3 u3 => ?_)
  replace c1 := (u3.2.1 _ (by omega)).trans c1
  replace hC := (u3.2.1 _ (by omega)).trans hC
  have e3 : 100 + w2.2.1 = a + 2 := by omega
  rw [e3]
  have c3 := e3 ▸ u3.1
  replace hX : ∀ b : Nat, b < a ∨ a + 4 ≤ b → w3.1 b = w.1 b := fun b hb => (u3.2.1 b (by omega)).trans (hX b hb)
  clear e3
  replace hn : w3.2.1 = n + 2 := by rw [u3.2.2.1]; omega
  replace hf := u3.2.2.2
  refine K_putR dX6_init_17 fX6_15 (Or.inr ⟨rfl, rfl⟩) hC (Nat.le_of_ble_eq_true rfl) (by first | exact Or.inl ⟨_, rfl⟩ | exact Or.inr ⟨_, rfl⟩) (fun w4 u4 => ?_)
  replace c1 := (u4.2.1 _ (by omega)).trans c1
  replace c3 := (u4.2.1 _ (by omega)).trans c3
  replace hC := u4.1
  replace hX : ∀ b : Nat, b < a ∨ a + 4 ≤ b → w4.1 b = w.1 b := fun b hb => (u4.2.1 b (by omega)).trans (hX b hb)
  replace hn := (congrArg Prod.fst u4.2.2).trans hn
  replace hf := (congrArg Prod.snd u4.2.2).trans hf
  replace hC : w4.1 a = .inr (6, [.ref (a + 1), .ref (a + 2), .null]) := hC
  refine J_aload_n dX6_init_20 rfl rfl ?_
  refine J_bipush (v := nI 14) dX6_init_21 (by decide) ?_
  refine K_newa_int (N := 14) (kb := 0) (sb := 0) dX6_init_23 ac_int (by decide) (Nat.le_of_ble_eq_true rfl) hf (fun w5 u5 => ?_)
  replace c1 := (u5.2.1 _ (by omega)).trans c1
  replace c3 := (u5.2.1 _ (by omega)).trans c3
  replace hC := (u5.2.1 _ (by omega)).trans hC
  have e5 : 100 + w4.2.1 = a + 3 := by omega
  rw [e5]
  have c5 := e5 ▸ u5.1
  replace hX : ∀ b : Nat, b < a ∨ a + 4 ≤ b → w5.1 b = w.1 b := fun b hb => (u5.2.1 b (by omega)).trans (hX b hb)
  clear e5
  replace hn : w5.2.1 = n + 3 := by rw [u5.2.2.1]; omega
  replace hf := u5.2.2.2
  refine K_putR dX6_init_25 fX6_18 (Or.inr ⟨rfl, rfl⟩) hC (Nat.le_of_ble_eq_true rfl) (by first | exact Or.inl ⟨_, rfl⟩ | exact Or.inr ⟨_, rfl⟩) (fun w6 u6 => ?_)
  replace c1 := (u6.2.1 _ (by omega)).trans c1
  replace c3 := (u6.2.1 _ (by omega)).trans c3
  replace c5 := (u6.2.1 _ (by omega)).trans c5
  replace hC := u6.1
  replace hX : ∀ b : Nat, b < a ∨ a + 4 ≤ b → w6.1 b = w.1 b := fun b hb => (u6.2.1 b (by omega)).trans (hX b hb)
  replace hn := (congrArg Prod.fst u6.2.2).trans hn
  replace hf := (congrArg Prod.snd u6.2.2).trans hf
  replace hC : w6.1 a = .inr (6, [.ref (a + 1), .ref (a + 2), .ref (a + 3)]) := hC
  exact J_return dX6_init_28 rfl (RP_i ⟨rfl, ⟨hX, by omega, hf⟩, _, _, _, hC, c1, c3, c5⟩)

set_option maxHeartbeats 8000000 in
theorem c_X5_init {w : Wd} {a n : Nat} (hC : w.1 a = .inr (5, [.null, .int 0])) (hn : w.2.1 = n) (ha : a + 1 = 100 + n) (hf : w.2.2 = true) : MC 2 mX5_init 1 14 [.ref a] w (RP (fun v w' => v = none ∧ NwF w w' a 2 ∧ RepO w' a [])) := by
  have hX : ∀ b : Nat, b < a ∨ a + 2 ≤ b → w.1 b = w.1 b := fun _ _ => rfl
  have hn0 := hn
  refine MC_j pnX5 rfl rfl rfl (Or.inr (fun E w h => RP_no E w h)) ?_
  show J 2 mX5_init 0 [some (.ref a)] [] w 1 14 _
  refine J_aload_n dX5_init_0 rfl rfl ?_
  refine J_objInit dX5_init_1 kX5_3 (Nat.le_of_ble_eq_true rfl) (by decide) ?_
  refine J_aload_n dX5_init_4 rfl rfl ?_
  refine J_bipush (v := nI 14) dX5_init_5 (by decide) ?_
  refine K_newa_char (N := 14) (kb := 0) (sb := 0) dX5_init_7 ac_char (by decide) (Nat.le_of_ble_eq_true rfl) hf (fun w1 u1 => ?_)
  replace hC := (u1.2.1 _ (by omega)).trans hC
  have e1 : 100 + w.2.1 = a + 1 := by omega
  rw [e1]
  have c1 := e1 ▸ u1.1
  replace hX : ∀ b : Nat, b < a ∨ a + 2 ≤ b → w1.1 b = w.1 b := fun b hb => (u1.2.1 b (by omega)).trans (hX b hb)
  clear e1
  replace hn : w1.2.1 = n + 1 := by rw [u1.2.2.1]; omega
  replace hf := u1.2.2.2
  refine K_putR dX5_init_9 fX5_9 (Or.inr ⟨rfl, rfl⟩) hC (Nat.le_of_ble_eq_true rfl) (by first | exact Or.inl ⟨_, rfl⟩ | exact Or.inr ⟨_, rfl⟩) (fun w2 u2 => ?_)
  replace c1 := (u2.2.1 _ (by omega)).trans c1
  replace hC := u2.1
  replace hX : ∀ b : Nat, b < a ∨ a + 2 ≤ b → w2.1 b = w.1 b := fun b hb => (u2.2.1 b (by omega)).trans (hX b hb)
  replace hn := (congrArg Prod.fst u2.2.2).trans hn
  replace hf := (congrArg Prod.snd u2.2.2).trans hf
  replace hC : w2.1 a = .inr (5, [.ref (a + 1), .int 0]) := hC
  refine J_aload_n dX5_init_12 rfl rfl ?_
  refine J_iconst (v := nI 0) dX5_init_13 (by decide) ?_
  refine K_putI dX5_init_14 fX5_15 (Or.inl rfl) hC (Nat.le_of_ble_eq_true rfl) (fun w3 u3 => ?_)
  replace c1 := (u3.2.1 _ (by omega)).trans c1
  replace hC := u3.1
  replace hX : ∀ b : Nat, b < a ∨ a + 2 ≤ b → w3.1 b = w.1 b := fun b hb => (u3.2.1 b (by omega)).trans (hX b hb)
  replace hn := (congrArg Prod.fst u3.2.2).trans hn
  replace hf := (congrArg Prod.snd u3.2.2).trans hf
  replace hC : w3.1 a = .inr (5, [.ref (a + 1), .int (nI 0)]) := hC
  exact J_return dX5_init_17 rfl (RP_i ⟨rfl, ⟨hX, by omega, hf⟩, _, hC, c1, Nat.zero_le _, fun j hj => absurd hj (Nat.not_lt_zero j)⟩)

end JINIT

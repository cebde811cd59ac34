/-! WHAT IS THROWN; THE MODEL MADE -/
section JTHR
def G0 : Gme := ((S0, S0, false), ((fun _ => S0), 0), [], ((fun _ => 0), 0), (none, none))
theorem fit_0 : FitM (fun _ => 0) S0 := ⟨⟨rfl, rfl, rfl, rfl⟩, fun b hb => absurd hb (Nat.not_lt_zero b), fun b hb => absurd hb (Nat.not_lt_zero b), fun t ht => absurd ht (Nat.not_lt_zero t), wf_S0⟩
set_option maxHeartbeats 8000000 in
theorem c_X9_init {w : Wd} {a n : Nat} (hC : w.1 a = .inr (9, [.int 0, .null, .null, .null, .null, .null, .int 0, .int 0, .null, .null, .null, .null, .null, .int 0, .int 0, .int 0, .int 0, .int 0, .int 0, .int 0, .int 0, .int 0])) (hn : w.2.1 = n) (ha : a + 1 = 100 + n) (hf : w.2.2 = true) : MC 2 mX9_init 10 1700 [.ref a] w (RP (fun v w' => v = none ∧ NwF w w' a 11 ∧ RepM w' a G0 0)) := by
  have hX : ∀ b : Nat, b < a ∨ a + 11 ≤ b → w.1 b = w.1 b := fun _ _ => rfl
  have hn0 := hn
  refine MC_j pnX9 rfl rfl rfl (Or.inr (fun E w h => RP_no E w h)) ?_
  show J 2 mX9_init 0 [some (.ref a)] [] w 10 1700 _
  refine J_aload_n dX9_init_0 rfl rfl ?_
  refine J_objInit dX9_init_1 kX9_1 (Nat.le_of_ble_eq_true rfl) (by decide) ?_
  refine J_aload_n dX9_init_4 rfl rfl ?_
  refine J_bipush (v := nI 116) dX9_init_5 (by decide) ?_
  refine K_newa_int (N := 116) (kb := 9) (sb := 1584) dX9_init_7 ac_int (by decide) (Nat.le_of_ble_eq_true rfl) hf (fun w1 u1 => ?_)
  replace hC := (u1.2.1 _ (by omega)).trans hC
  have e1 : 100 + w.2.1 = a + 1 := by omega
  rw [e1]
  have c1 := e1 ▸ u1.1
  replace hX : ∀ b : Nat, b < a ∨ a + 11 ≤ b → w1.1 b = w.1 b := fun b hb => (u1.2.1 b (by omega)).trans (hX b hb)
  clear e1
  replace hn : w1.2.1 = n + 1 := by rw [u1.2.2.1]; omega
  replace hf := u1.2.2.2
  refine K_putR dX9_init_9 fX9_7 (Or.inr ⟨rfl, rfl⟩) hC (Nat.le_of_ble_eq_true rfl) (by first | exact Or.inl ⟨_, rfl⟩ | exact Or.inr ⟨_, rfl⟩) (fun w2 u2 => ?_)
  replace c1 := (u2.2.1 _ (by omega)).trans c1
  replace hC := u2.1
  replace hX : ∀ b : Nat, b < a ∨ a + 11 ≤ b → w2.1 b = w.1 b := fun b hb => (u2.2.1 b (by omega)).trans (hX b hb)
  replace hn := (congrArg Prod.fst u2.2.2).trans hn
  replace hf := (congrArg Prod.snd u2.2.2).trans hf
  replace hC : w2.1 a = .inr (9, [.int 0, .ref (a + 1), .null, .null, .null, .null, .int 0, .int 0, .null, .null, .null, .null, .null, .int 0, .int 0, .int 0, .int 0, .int 0, .int 0, .int 0, .int 0, .int 0]) := hC
  refine J_aload_n dX9_init_12 rfl rfl ?_
  refine J_bipush (v := nI 116) dX9_init_13 (by decide) ?_
  refine K_newa_int (N := 116) (kb := 8) (sb := 1468) dX9_init_15 ac_int (by decide) (Nat.le_of_ble_eq_true rfl) hf (fun w3 u3 => ?_)
  replace c1 := (u3.2.1 _ (by omega)).trans c1
  replace hC := (u3.2.1 _ (by omega)).trans hC
  have e3 : 100 + w2.2.1 = a + 2 := by omega
  rw [e3]
  have c3 := e3 ▸ u3.1
  replace hX : ∀ b : Nat, b < a ∨ a + 11 ≤ b → w3.1 b = w.1 b := fun b hb => (u3.2.1 b (by omega)).trans (hX b hb)
  clear e3
  replace hn : w3.2.1 = n + 2 := by rw [u3.2.2.1]; omega
  replace hf := u3.2.2.2
  refine K_putR dX9_init_17 fX9_13 (Or.inr ⟨rfl, rfl⟩) hC (Nat.le_of_ble_eq_true rfl) (by first | exact Or.inl ⟨_, rfl⟩ | exact Or.inr ⟨_, rfl⟩) (fun w4 u4 => ?_)
  replace c1 := (u4.2.1 _ (by omega)).trans c1
  replace c3 := (u4.2.1 _ (by omega)).trans c3
  replace hC := u4.1
  replace hX : ∀ b : Nat, b < a ∨ a + 11 ≤ b → w4.1 b = w.1 b := fun b hb => (u4.2.1 b (by omega)).trans (hX b hb)
  replace hn := (congrArg Prod.fst u4.2.2).trans hn
  replace hf := (congrArg Prod.snd u4.2.2).trans hf
  replace hC : w4.1 a = .inr (9, [.int 0, .ref (a + 1), .ref (a + 2), .null, .null, .null, .int 0, .int 0, .null, .null, .null, .null, .null, .int 0, .int 0, .int 0, .int 0, .int 0, .int 0, .int 0, .int 0, .int 0]) := hC
  refine J_aload_n dX9_init_20 rfl rfl ?_
  refine J_bipush (v := nI 116) dX9_init_21 (by decide) ?_
  refine K_newa_int (N := 116) (kb := 7) (sb := 1352) dX9_init_23 ac_int (by decide) (Nat.le_of_ble_eq_true rfl) hf (fun w5 u5 => ?_)
  replace c1 := (u5.2.1 _ (by omega)).trans c1
  replace c3 := (u5.2.1 _ (by omega)).trans c3
  replace hC := (u5.2.1 _ (by omega)).trans hC
  have e5 : 100 + w4.2.1 = a + 3 := by omega
  rw [e5]
  have c5 := e5 ▸ u5.1
  replace hX : ∀ b : Nat, b < a ∨ a + 11 ≤ b → w5.1 b = w.1 b := fun b hb => (u5.2.1 b (by omega)).trans (hX b hb)
  clear e5
  replace hn : w5.2.1 = n + 3 := by rw [u5.2.2.1]; omega
  replace hf := u5.2.2.2
  refine K_putR dX9_init_25 fX9_16 (Or.inr ⟨rfl, rfl⟩) hC (Nat.le_of_ble_eq_true rfl) (by first | exact Or.inl ⟨_, rfl⟩ | exact Or.inr ⟨_, rfl⟩) (fun w6 u6 => ?_)
  replace c1 := (u6.2.1 _ (by omega)).trans c1
  replace c3 := (u6.2.1 _ (by omega)).trans c3
  replace c5 := (u6.2.1 _ (by omega)).trans c5
  replace hC := u6.1
  replace hX : ∀ b : Nat, b < a ∨ a + 11 ≤ b → w6.1 b = w.1 b := fun b hb => (u6.2.1 b (by omega)).trans (hX b hb)
  replace hn := (congrArg Prod.fst u6.2.2).trans hn
  replace hf := (congrArg Prod.snd u6.2.2).trans hf
  replace hC : w6.1 a = .inr (9, [.int 0, .ref (a + 1), .ref (a + 2), .ref (a + 3), .null, .null, .int 0, .int 0, .null, .null, .null, .null, .null, .int 0, .int 0, .int 0, .int 0, .int 0, .int 0, .int 0, .int 0, .int 0]) := hC
  refine J_aload_n dX9_init_28 rfl rfl ?_
  refine J_sipush (v := nI 928) dX9_init_29 (by decide) ?_
  refine K_newa_int (N := 928) (kb := 6) (sb := 424) dX9_init_32 ac_int (by decide) (Nat.le_of_ble_eq_true rfl) hf (fun w7 u7 => ?_)
  replace c1 := (u7.2.1 _ (by omega)).trans c1
  replace c3 := (u7.2.1 _ (by omega)).trans c3
  replace c5 := (u7.2.1 _ (by omega)).trans c5
  replace hC := (u7.2.1 _ (by omega)).trans hC
  have e7 : 100 + w6.2.1 = a + 4 := by omega
  rw [e7]
  have c7 := e7 ▸ u7.1
  replace hX : ∀ b : Nat, b < a ∨ a + 11 ≤ b → w7.1 b = w.1 b := fun b hb => (u7.2.1 b (by omega)).trans (hX b hb)
  clear e7
  replace hn : w7.2.1 = n + 4 := by rw [u7.2.2.1]; omega
  replace hf := u7.2.2.2
  refine K_putR dX9_init_34 fX9_19 (Or.inr ⟨rfl, rfl⟩) hC (Nat.le_of_ble_eq_true rfl) (by first | exact Or.inl ⟨_, rfl⟩ | exact Or.inr ⟨_, rfl⟩) (fun w8 u8 => ?_)
  replace c1 := (u8.2.1 _ (by omega)).trans c1
  replace c3 := (u8.2.1 _ (by omega)).trans c3
  replace c5 := (u8.2.1 _ (by omega)).trans c5
  replace c7 := (u8.2.1 _ (by omega)).trans c7
  replace hC := u8.1
  replace hX : ∀ b : Nat, b < a ∨ a + 11 ≤ b → w8.1 b = w.1 b := fun b hb => (u8.2.1 b (by omega)).trans (hX b hb)
  replace hn := (congrArg Prod.fst u8.2.2).trans hn
  replace hf := (congrArg Prod.snd u8.2.2).trans hf
  replace hC : w8.1 a = .inr (9, [.int 0, .ref (a + 1), .ref (a + 2), .ref (a + 3), .ref (a + 4), .null, .int 0, .int 0, .null, .null, .null, .null, .null, .int 0, .int 0, .int 0, .int 0, .int 0, .int 0, .int 0, .int 0, .int 0]) := hC
  refine J_aload_n dX9_init_37 rfl rfl ?_
  refine J_bipush (v := nI 116) dX9_init_38 (by decide) ?_
  refine K_newa_int (N := 116) (kb := 5) (sb := 308) dX9_init_40 ac_int (by decide) (Nat.le_of_ble_eq_true rfl) hf (fun w9 u9 => ?_)
  replace c1 := (u9.2.1 _ (by omega)).trans c1
  replace c3 := (u9.2.1 _ (by omega)).trans c3
  replace c5 := (u9.2.1 _ (by omega)).trans c5
  replace c7 := (u9.2.1 _ (by omega)).trans c7
  replace hC := (u9.2.1 _ (by omega)).trans hC
  have e9 : 100 + w8.2.1 = a + 5 := by omega
  rw [e9]
  have c9 := e9 ▸ u9.1
  replace hX : ∀ b : Nat, b < a ∨ a + 11 ≤ b → w9.1 b = w.1 b := fun b hb => (u9.2.1 b (by omega)).trans (hX b hb)
  clear e9
  replace hn : w9.2.1 = n + 5 := by rw [u9.2.2.1]; omega
  replace hf := u9.2.2.2
  refine K_putR dX9_init_42 fX9_22 (Or.inr ⟨rfl, rfl⟩) hC (Nat.le_of_ble_eq_true rfl) (by first | exact Or.inl ⟨_, rfl⟩ | exact Or.inr ⟨_, rfl⟩) (fun w10 u10 => ?_)
  replace c1 := (u10.2.1 _ (by omega)).trans c1
  replace c3 := (u10.2.1 _ (by omega)).trans c3
  replace c5 := (u10.2.1 _ (by omega)).trans c5
  replace c7 := (u10.2.1 _ (by omega)).trans c7
  replace c9 := (u10.2.1 _ (by omega)).trans c9
  replace hC := u10.1
  replace hX : ∀ b : Nat, b < a ∨ a + 11 ≤ b → w10.1 b = w.1 b := fun b hb => (u10.2.1 b (by omega)).trans (hX b hb)
  replace hn := (congrArg Prod.fst u10.2.2).trans hn
  replace hf := (congrArg Prod.snd u10.2.2).trans hf
  replace hC : w10.1 a = .inr (9, [.int 0, .ref (a + 1), .ref (a + 2), .ref (a + 3), .ref (a + 4), .ref (a + 5), .int 0, .int 0, .null, .null, .null, .null, .null, .int 0, .int 0, .int 0, .int 0, .int 0, .int 0, .int 0, .int 0, .int 0]) := hC
  refine J_aload_n dX9_init_45 rfl rfl ?_
  refine J_bipush (v := nI 60) dX9_init_46 (by decide) ?_
  refine K_newa_int (N := 60) (kb := 4) (sb := 248) dX9_init_48 ac_int (by decide) (Nat.le_of_ble_eq_true rfl) hf (fun w11 u11 => ?_)
  replace c1 := (u11.2.1 _ (by omega)).trans c1
  replace c3 := (u11.2.1 _ (by omega)).trans c3
  replace c5 := (u11.2.1 _ (by omega)).trans c5
  replace c7 := (u11.2.1 _ (by omega)).trans c7
  replace c9 := (u11.2.1 _ (by omega)).trans c9
  replace hC := (u11.2.1 _ (by omega)).trans hC
  have e11 : 100 + w10.2.1 = a + 6 := by omega
  rw [e11]
  have c11 := e11 ▸ u11.1
  replace hX : ∀ b : Nat, b < a ∨ a + 11 ≤ b → w11.1 b = w.1 b := fun b hb => (u11.2.1 b (by omega)).trans (hX b hb)
  clear e11
  replace hn : w11.2.1 = n + 6 := by rw [u11.2.2.1]; omega
  replace hf := u11.2.2.2
  refine K_putR dX9_init_50 fX9_25 (Or.inr ⟨rfl, rfl⟩) hC (Nat.le_of_ble_eq_true rfl) (by first | exact Or.inl ⟨_, rfl⟩ | exact Or.inr ⟨_, rfl⟩) (fun w12 u12 => ?_)
  replace c1 := (u12.2.1 _ (by omega)).trans c1
  replace c11 := (u12.2.1 _ (by omega)).trans c11
  replace c3 := (u12.2.1 _ (by omega)).trans c3
  replace c5 := (u12.2.1 _ (by omega)).trans c5
  replace c7 := (u12.2.1 _ (by omega)).trans c7
  replace c9 := (u12.2.1 _ (by omega)).trans c9
  replace hC := u12.1
  replace hX : ∀ b : Nat, b < a ∨ a + 11 ≤ b → w12.1 b = w.1 b := fun b hb => (u12.2.1 b (by omega)).trans (hX b hb)
  replace hn := (congrArg Prod.fst u12.2.2).trans hn
  replace hf := (congrArg Prod.snd u12.2.2).trans hf
  replace hC : w12.1 a = .inr (9, [.int 0, .ref (a + 1), .ref (a + 2), .ref (a + 3), .ref (a + 4), .ref (a + 5), .int 0, .int 0, .ref (a + 6), .null, .null, .null, .null, .int 0, .int 0, .int 0, .int 0, .int 0, .int 0, .int 0, .int 0, .int 0]) := hC
  refine J_aload_n dX9_init_53 rfl rfl ?_
  refine J_sipush (v := nI 180) dX9_init_54 (by decide) ?_
  refine K_newa_int (N := 180) (kb := 3) (sb := 68) dX9_init_57 ac_int (by decide) (Nat.le_of_ble_eq_true rfl) hf (fun w13 u13 => ?_)
  replace c1 := (u13.2.1 _ (by omega)).trans c1
  replace c11 := (u13.2.1 _ (by omega)).trans c11
  replace c3 := (u13.2.1 _ (by omega)).trans c3
  replace c5 := (u13.2.1 _ (by omega)).trans c5
  replace c7 := (u13.2.1 _ (by omega)).trans c7
  replace c9 := (u13.2.1 _ (by omega)).trans c9
  replace hC := (u13.2.1 _ (by omega)).trans hC
  have e13 : 100 + w12.2.1 = a + 7 := by omega
  rw [e13]
  have c13 := e13 ▸ u13.1
  replace hX : ∀ b : Nat, b < a ∨ a + 11 ≤ b → w13.1 b = w.1 b := fun b hb => (u13.2.1 b (by omega)).trans (hX b hb)
  clear e13
  replace hn : w13.2.1 = n + 7 := by rw [u13.2.2.1]; omega
  replace hf := u13.2.2.2
  refine K_putR dX9_init_59 fX9_28 (Or.inr ⟨rfl, rfl⟩) hC (Nat.le_of_ble_eq_true rfl) (by first | exact Or.inl ⟨_, rfl⟩ | exact Or.inr ⟨_, rfl⟩) (fun w14 u14 => ?_)
  replace c1 := (u14.2.1 _ (by omega)).trans c1
  replace c11 := (u14.2.1 _ (by omega)).trans c11
  replace c13 := (u14.2.1 _ (by omega)).trans c13
  replace c3 := (u14.2.1 _ (by omega)).trans c3
  replace c5 := (u14.2.1 _ (by omega)).trans c5
  replace c7 := (u14.2.1 _ (by omega)).trans c7
  replace c9 := (u14.2.1 _ (by omega)).trans c9
  replace hC := u14.1
  replace hX : ∀ b : Nat, b < a ∨ a + 11 ≤ b → w14.1 b = w.1 b := fun b hb => (u14.2.1 b (by omega)).trans (hX b hb)
  replace hn := (congrArg Prod.fst u14.2.2).trans hn
  replace hf := (congrArg Prod.snd u14.2.2).trans hf
  replace hC : w14.1 a = .inr (9, [.int 0, .ref (a + 1), .ref (a + 2), .ref (a + 3), .ref (a + 4), .ref (a + 5), .int 0, .int 0, .ref (a + 6), .ref (a + 7), .null, .null, .null, .int 0, .int 0, .int 0, .int 0, .int 0, .int 0, .int 0, .int 0, .int 0]) := hC
  refine J_aload_n dX9_init_62 rfl rfl ?_
  refine J_bipush (v := nI 40) dX9_init_63 (by decide) ?_
  refine K_newa_int (N := 40) (kb := 2) (sb := 28) dX9_init_65 ac_int (by decide) (Nat.le_of_ble_eq_true rfl) hf (fun w15 u15 => ?_)
  replace c1 := (u15.2.1 _ (by omega)).trans c1
  replace c11 := (u15.2.1 _ (by omega)).trans c11
  replace c13 := (u15.2.1 _ (by omega)).trans c13
  replace c3 := (u15.2.1 _ (by omega)).trans c3
  replace c5 := (u15.2.1 _ (by omega)).trans c5
  replace c7 := (u15.2.1 _ (by omega)).trans c7
  replace c9 := (u15.2.1 _ (by omega)).trans c9
  replace hC := (u15.2.1 _ (by omega)).trans hC
  have e15 : 100 + w14.2.1 = a + 8 := by omega
  rw [e15]
  have c15 := e15 ▸ u15.1
  replace hX : ∀ b : Nat, b < a ∨ a + 11 ≤ b → w15.1 b = w.1 b := fun b hb => (u15.2.1 b (by omega)).trans (hX b hb)
  clear e15
  replace hn : w15.2.1 = n + 8 := by rw [u15.2.2.1]; omega
  replace hf := u15.2.2.2
  refine K_putR dX9_init_67 fX9_31 (Or.inr ⟨rfl, rfl⟩) hC (Nat.le_of_ble_eq_true rfl) (by first | exact Or.inl ⟨_, rfl⟩ | exact Or.inr ⟨_, rfl⟩) (fun w16 u16 => ?_)
  replace c1 := (u16.2.1 _ (by omega)).trans c1
  replace c11 := (u16.2.1 _ (by omega)).trans c11
  replace c13 := (u16.2.1 _ (by omega)).trans c13
  replace c15 := (u16.2.1 _ (by omega)).trans c15
  replace c3 := (u16.2.1 _ (by omega)).trans c3
  replace c5 := (u16.2.1 _ (by omega)).trans c5
  replace c7 := (u16.2.1 _ (by omega)).trans c7
  replace c9 := (u16.2.1 _ (by omega)).trans c9
  replace hC := u16.1
  replace hX : ∀ b : Nat, b < a ∨ a + 11 ≤ b → w16.1 b = w.1 b := fun b hb => (u16.2.1 b (by omega)).trans (hX b hb)
  replace hn := (congrArg Prod.fst u16.2.2).trans hn
  replace hf := (congrArg Prod.snd u16.2.2).trans hf
  replace hC : w16.1 a = .inr (9, [.int 0, .ref (a + 1), .ref (a + 2), .ref (a + 3), .ref (a + 4), .ref (a + 5), .int 0, .int 0, .ref (a + 6), .ref (a + 7), .ref (a + 8), .null, .null, .int 0, .int 0, .int 0, .int 0, .int 0, .int 0, .int 0, .int 0, .int 0]) := hC
  refine J_aload_n dX9_init_70 rfl rfl ?_
  refine J_bipush (v := nI 14) dX9_init_71 (by decide) ?_
  refine K_newa_int (N := 14) (kb := 1) (sb := 14) dX9_init_73 ac_int (by decide) (Nat.le_of_ble_eq_true rfl) hf (fun w17 u17 => ?_)
  replace c1 := (u17.2.1 _ (by omega)).trans c1
  replace c11 := (u17.2.1 _ (by omega)).trans c11
  replace c13 := (u17.2.1 _ (by omega)).trans c13
  replace c15 := (u17.2.1 _ (by omega)).trans c15
  replace c3 := (u17.2.1 _ (by omega)).trans c3
  replace c5 := (u17.2.1 _ (by omega)).trans c5
  replace c7 := (u17.2.1 _ (by omega)).trans c7
  replace c9 := (u17.2.1 _ (by omega)).trans c9
  replace hC := (u17.2.1 _ (by omega)).trans hC
  have e17 : 100 + w16.2.1 = a + 9 := by omega
  rw [e17]
  have c17 := e17 ▸ u17.1
  replace hX : ∀ b : Nat, b < a ∨ a + 11 ≤ b → w17.1 b = w.1 b := fun b hb => (u17.2.1 b (by omega)).trans (hX b hb)
  clear e17
  replace hn : w17.2.1 = n + 9 := by rw [u17.2.2.1]; omega
  replace hf := u17.2.2.2
  refine K_putR dX9_init_75 fX9_34 (Or.inr ⟨rfl, rfl⟩) hC (Nat.le_of_ble_eq_true rfl) (by first | exact Or.inl ⟨_, rfl⟩ | exact Or.inr ⟨_, rfl⟩) (fun w18 u18 => ?_)
  replace c1 := (u18.2.1 _ (by omega)).trans c1
  replace c11 := (u18.2.1 _ (by omega)).trans c11
  replace c13 := (u18.2.1 _ (by omega)).trans c13
  replace c15 := (u18.2.1 _ (by omega)).trans c15
  replace c17 := (u18.2.1 _ (by omega)).trans c17
  replace c3 := (u18.2.1 _ (by omega)).trans c3
  replace c5 := (u18.2.1 _ (by omega)).trans c5
  replace c7 := (u18.2.1 _ (by omega)).trans c7
  replace c9 := (u18.2.1 _ (by omega)).trans c9
  replace hC := u18.1
  replace hX : ∀ b : Nat, b < a ∨ a + 11 ≤ b → w18.1 b = w.1 b := fun b hb => (u18.2.1 b (by omega)).trans (hX b hb)
  replace hn := (congrArg Prod.fst u18.2.2).trans hn
  replace hf := (congrArg Prod.snd u18.2.2).trans hf
  replace hC : w18.1 a = .inr (9, [.int 0, .ref (a + 1), .ref (a + 2), .ref (a + 3), .ref (a + 4), .ref (a + 5), .int 0, .int 0, .ref (a + 6), .ref (a + 7), .ref (a + 8), .ref (a + 9), .null, .int 0, .int 0, .int 0, .int 0, .int 0, .int 0, .int 0, .int 0, .int 0]) := hC
  refine J_aload_n dX9_init_78 rfl rfl ?_
  refine J_bipush (v := nI 14) dX9_init_79 (by decide) ?_
  refine K_newa_int (N := 14) (kb := 0) (sb := 0) dX9_init_81 ac_int (by decide) (Nat.le_of_ble_eq_true rfl) hf (fun w19 u19 => ?_)
  replace c1 := (u19.2.1 _ (by omega)).trans c1
  replace c11 := (u19.2.1 _ (by omega)).trans c11
  replace c13 := (u19.2.1 _ (by omega)).trans c13
  replace c15 := (u19.2.1 _ (by omega)).trans c15
  replace c17 := (u19.2.1 _ (by omega)).trans c17
  replace c3 := (u19.2.1 _ (by omega)).trans c3
  replace c5 := (u19.2.1 _ (by omega)).trans c5
  replace c7 := (u19.2.1 _ (by omega)).trans c7
  replace c9 := (u19.2.1 _ (by omega)).trans c9
  replace hC := (u19.2.1 _ (by omega)).trans hC
  have e19 : 100 + w18.2.1 = a + 10 := by omega
  rw [e19]
  have c19 := e19 ▸ u19.1
  replace hX : ∀ b : Nat, b < a ∨ a + 11 ≤ b → w19.1 b = w.1 b := fun b hb => (u19.2.1 b (by omega)).trans (hX b hb)
  clear e19
  replace hn : w19.2.1 = n + 10 := by rw [u19.2.2.1]; omega
  replace hf := u19.2.2.2
  refine K_putR dX9_init_83 fX9_37 (Or.inr ⟨rfl, rfl⟩) hC (Nat.le_of_ble_eq_true rfl) (by first | exact Or.inl ⟨_, rfl⟩ | exact Or.inr ⟨_, rfl⟩) (fun w20 u20 => ?_)
  replace c1 := (u20.2.1 _ (by omega)).trans c1
  replace c11 := (u20.2.1 _ (by omega)).trans c11
  replace c13 := (u20.2.1 _ (by omega)).trans c13
  replace c15 := (u20.2.1 _ (by omega)).trans c15
  replace c17 := (u20.2.1 _ (by omega)).trans c17
  replace c19 := (u20.2.1 _ (by omega)).trans c19
  replace c3 := (u20.2.1 _ (by omega)).trans c3
  replace c5 := (u20.2.1 _ (by omega)).trans c5
  replace c7 := (u20.2.1 _ (by omega)).trans c7
  replace c9 := (u20.2.1 _ (by omega)).trans c9
  replace hC := u20.1
  replace hX : ∀ b : Nat, b < a ∨ a + 11 ≤ b → w20.1 b = w.1 b := fun b hb => (u20.2.1 b (by omega)).trans (hX b hb)
  replace hn := (congrArg Prod.fst u20.2.2).trans hn
  replace hf := (congrArg Prod.snd u20.2.2).trans hf
  replace hC : w20.1 a = .inr (9, [.int 0, .ref (a + 1), .ref (a + 2), .ref (a + 3), .ref (a + 4), .ref (a + 5), .int 0, .int 0, .ref (a + 6), .ref (a + 7), .ref (a + 8), .ref (a + 9), .ref (a + 10), .int 0, .int 0, .int 0, .int 0, .int 0, .int 0, .int 0, .int 0, .int 0]) := hC
  refine J_aload_n dX9_init_86 rfl rfl ?_
  refine J_iconst (v := (-1)) dX9_init_87 (by decide) ?_
  refine K_putI dX9_init_88 fX9_40 (Or.inl rfl) hC (Nat.le_of_ble_eq_true rfl) (fun w21 u21 => ?_)
  replace c1 := (u21.2.1 _ (by omega)).trans c1
  replace c11 := (u21.2.1 _ (by omega)).trans c11
  replace c13 := (u21.2.1 _ (by omega)).trans c13
  replace c15 := (u21.2.1 _ (by omega)).trans c15
  replace c17 := (u21.2.1 _ (by omega)).trans c17
  replace c19 := (u21.2.1 _ (by omega)).trans c19
  replace c3 := (u21.2.1 _ (by omega)).trans c3
  replace c5 := (u21.2.1 _ (by omega)).trans c5
  replace c7 := (u21.2.1 _ (by omega)).trans c7
  replace c9 := (u21.2.1 _ (by omega)).trans c9
  replace hC := u21.1
  replace hX : ∀ b : Nat, b < a ∨ a + 11 ≤ b → w21.1 b = w.1 b := fun b hb => (u21.2.1 b (by omega)).trans (hX b hb)
  replace hn := (congrArg Prod.fst u21.2.2).trans hn
  replace hf := (congrArg Prod.snd u21.2.2).trans hf
  replace hC : w21.1 a = .inr (9, [.int 0, .ref (a + 1), .ref (a + 2), .ref (a + 3), .ref (a + 4), .ref (a + 5), .int 0, .int 0, .ref (a + 6), .ref (a + 7), .ref (a + 8), .ref (a + 9), .ref (a + 10), .int 0, .int 0, .int ((-1)), .int 0, .int 0, .int 0, .int 0, .int 0, .int 0]) := hC
  refine J_aload_n dX9_init_91 rfl rfl ?_
  refine J_iconst (v := (-1)) dX9_init_92 (by decide) ?_
  refine K_putI dX9_init_93 fX9_44 (Or.inl rfl) hC (Nat.le_of_ble_eq_true rfl) (fun w22 u22 => ?_)
  replace c1 := (u22.2.1 _ (by omega)).trans c1
  replace c11 := (u22.2.1 _ (by omega)).trans c11
  replace c13 := (u22.2.1 _ (by omega)).trans c13
  replace c15 := (u22.2.1 _ (by omega)).trans c15
  replace c17 := (u22.2.1 _ (by omega)).trans c17
  replace c19 := (u22.2.1 _ (by omega)).trans c19
  replace c3 := (u22.2.1 _ (by omega)).trans c3
  replace c5 := (u22.2.1 _ (by omega)).trans c5
  replace c7 := (u22.2.1 _ (by omega)).trans c7
  replace c9 := (u22.2.1 _ (by omega)).trans c9
  replace hC := u22.1
  replace hX : ∀ b : Nat, b < a ∨ a + 11 ≤ b → w22.1 b = w.1 b := fun b hb => (u22.2.1 b (by omega)).trans (hX b hb)
  replace hn := (congrArg Prod.fst u22.2.2).trans hn
  replace hf := (congrArg Prod.snd u22.2.2).trans hf
  replace hC : w22.1 a = .inr (9, [.int 0, .ref (a + 1), .ref (a + 2), .ref (a + 3), .ref (a + 4), .ref (a + 5), .int 0, .int 0, .ref (a + 6), .ref (a + 7), .ref (a + 8), .ref (a + 9), .ref (a + 10), .int 0, .int 0, .int ((-1)), .int ((-1)), .int 0, .int 0, .int 0, .int 0, .int 0]) := hC
  exact J_return dX9_init_96 rfl (RP_i ⟨rfl, ⟨hX, by omega, hf⟩, (fun k => if k = 15 then -1 else if k = 16 then -1 else 0), _, _, _, _, _, _, _, ⟨_, _, _, hC, c1, c17, c19, fit_0⟩, ⟨c3, c5, c7, c9, c11, c13, c15⟩, rfl, ⟨rfl, rfl, rfl, rfl, rfl, rfl⟩, ⟨fit_0, (fun j hj => absurd hj (Nat.not_lt_zero j)), (fun j hj => absurd hj (Nat.not_lt_zero j)), (fun j hj => absurd hj (Nat.not_lt_zero j)), ⟨Nat.zero_le _, Nat.zero_le _, Nat.zero_le _, (fun j hj => absurd hj (Nat.not_lt_zero j))⟩, (fun k hk => by cases hk), (fun k hk => by cases hk)⟩⟩)

end JTHR

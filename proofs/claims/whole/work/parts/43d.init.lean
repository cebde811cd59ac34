/-! WHAT IS MADE: the constructors -/
section JINIT
theorem c_X8_init {w : Wd} {a n : Nat} (hC : w.1 a = .inr (8, [.null, .null, .null, .null, .null, .null, .null, .null, .int 0, .int 0, .int 0])) (hn : w.2.1 = n) (ha : a + 1 = 100 + n) (hf : w.2.2 = true) : MC 4 mX8_init 125 1148 [.ref a] w (RP (fun v w' => v = none ∧ NwF w w' a 126 ∧ w'.1 a = .inr (8, [.ref (a + 1), .ref (a + 10), .ref (a + 19), .ref (a + 28), .ref (a + 111), .ref (a + 115), .ref (a + 122), .ref (a + 124), .int (nI 0), .int (-1), .int (-1)]) ∧ RepC w' (a + 1) S0 ∧ RepC w' (a + 10) S0 ∧ RepC w' (a + 19) S0 ∧ RepH w' (a + 28) (fun _ => S0) 0 S0 ∧ RepR w' (a + 111) ∧ RepT w' (a + 115) ∧ RepD w' (a + 122) (fun _ => 0) 0 0 false 10 (nI 0) (nI 0) ∧ RepO w' (a + 124) [])) := by
  refine MC_j pnX8 rfl rfl rfl (Or.inr (fun E w h => RP_no E w h)) ?_
  show J 4 mX8_init 0 [some (.ref a)] [] w 125 1148 _
  refine J_aload_n dX8_init_0 rfl rfl ?_
  refine J_objInit dX8_init_1 kX8_3 (Nat.le_of_ble_eq_true rfl) (by decide) ?_
  refine J_aload_n dX8_init_4 rfl rfl ?_
  refine K_new (kb := 124) (sb := 1133) dX8_init_5 nX8_9 hf (fun w1 u1 => ?_)
  have hC := (u1.2.1 _ (by omega)).trans hC
  have e1 : 100 + w.2.1 = a + 1 := by omega
  rw [e1]
  have c1 := e1 ▸ u1.1
  have hn : w1.2.1 = n + 1 := by rw [u1.2.2.1]; omega
  have hf := u1.2.2.2
  refine J_dup dX8_init_8 rfl ?_
  refine K_callINp (kb := 116) (sb := 1069) dX8_init_9 YX4_init rfl rfl kX8_11 (c_X4_init c1 hn (by omega) hf) rfl rfl (Nat.le_of_ble_eq_true rfl) (by decide) (fun v9 w9 q9 => ?_)
  obtain ⟨rfl, hN9, rC9⟩ := q9
  have hC := (hN9.1 _ (by omega)).trans hC
  have hn : w9.2.1 = n + 9 := by have := hN9.2.1; omega
  have hf := hN9.2.2
  refine K_putR dX8_init_12 fX8_12 (Or.inr ⟨rfl, rfl⟩) hC (Nat.le_of_ble_eq_true rfl) (by first | exact Or.inl ⟨_, rfl⟩ | exact Or.inr ⟨_, rfl⟩) (fun w2 u2 => ?_)
  have c1 := (u2.2.1 _ (by omega)).trans c1
  have hC := u2.1
  have hn := (congrArg Prod.fst u2.2.2).trans hn
  have hf := (congrArg Prod.snd u2.2.2).trans hf
  have hC : w2.1 a = .inr (8, [.ref (a + 1), .null, .null, .null, .null, .null, .null, .null, .int 0, .int 0, .int 0]) := hC
  refine J_aload_n dX8_init_15 rfl rfl ?_
  refine K_new (kb := 115) (sb := 1054) dX8_init_16 nX8_9 hf (fun w3 u3 => ?_)
  have c1 := (u3.2.1 _ (by omega)).trans c1
  have hC := (u3.2.1 _ (by omega)).trans hC
  have e3 : 100 + w2.2.1 = a + 10 := by omega
  rw [e3]
  have c3 := e3 ▸ u3.1
  have hn : w3.2.1 = n + 10 := by rw [u3.2.2.1]; omega
  have hf := u3.2.2.2
  refine J_dup dX8_init_19 rfl ?_
  refine K_callINp (kb := 107) (sb := 990) dX8_init_20 YX4_init rfl rfl kX8_11 (c_X4_init c3 hn (by omega) hf) rfl rfl (Nat.le_of_ble_eq_true rfl) (by decide) (fun v20 w20 q20 => ?_)
  obtain ⟨rfl, hN20, rC20⟩ := q20
  have c1 := (hN20.1 _ (by omega)).trans c1
  have hC := (hN20.1 _ (by omega)).trans hC
  have hn : w20.2.1 = n + 18 := by have := hN20.2.1; omega
  have hf := hN20.2.2
  refine K_putR dX8_init_23 fX8_16 (Or.inr ⟨rfl, rfl⟩) hC (Nat.le_of_ble_eq_true rfl) (by first | exact Or.inl ⟨_, rfl⟩ | exact Or.inr ⟨_, rfl⟩) (fun w4 u4 => ?_)
  have c1 := (u4.2.1 _ (by omega)).trans c1
  have c3 := (u4.2.1 _ (by omega)).trans c3
  have hC := u4.1
  have hn := (congrArg Prod.fst u4.2.2).trans hn
  have hf := (congrArg Prod.snd u4.2.2).trans hf
  have hC : w4.1 a = .inr (8, [.ref (a + 1), .ref (a + 10), .null, .null, .null, .null, .null, .null, .int 0, .int 0, .int 0]) := hC
  refine J_aload_n dX8_init_26 rfl rfl ?_
  refine K_new (kb := 106) (sb := 975) dX8_init_27 nX8_9 hf (fun w5 u5 => ?_)
  have c1 := (u5.2.1 _ (by omega)).trans c1
  have c3 := (u5.2.1 _ (by omega)).trans c3
  have hC := (u5.2.1 _ (by omega)).trans hC
  have e5 : 100 + w4.2.1 = a + 19 := by omega
  rw [e5]
  have c5 := e5 ▸ u5.1
  have hn : w5.2.1 = n + 19 := by rw [u5.2.2.1]; omega
  have hf := u5.2.2.2
  refine J_dup dX8_init_30 rfl ?_
  refine K_callINp (kb := 98) (sb := 911) dX8_init_31 YX4_init rfl rfl kX8_11 (c_X4_init c5 hn (by omega) hf) rfl rfl (Nat.le_of_ble_eq_true rfl) (by decide) (fun v31 w31 q31 => ?_)
  obtain ⟨rfl, hN31, rC31⟩ := q31
  have c1 := (hN31.1 _ (by omega)).trans c1
  have c3 := (hN31.1 _ (by omega)).trans c3
  have hC := (hN31.1 _ (by omega)).trans hC
  have hn : w31.2.1 = n + 27 := by have := hN31.2.1; omega
  have hf := hN31.2.2
  refine K_putR dX8_init_34 fX8_19 (Or.inr ⟨rfl, rfl⟩) hC (Nat.le_of_ble_eq_true rfl) (by first | exact Or.inl ⟨_, rfl⟩ | exact Or.inr ⟨_, rfl⟩) (fun w6 u6 => ?_)
  have c1 := (u6.2.1 _ (by omega)).trans c1
  have c3 := (u6.2.1 _ (by omega)).trans c3
  have c5 := (u6.2.1 _ (by omega)).trans c5
  have hC := u6.1
  have hn := (congrArg Prod.fst u6.2.2).trans hn
  have hf := (congrArg Prod.snd u6.2.2).trans hf
  have hC : w6.1 a = .inr (8, [.ref (a + 1), .ref (a + 10), .ref (a + 19), .null, .null, .null, .null, .null, .int 0, .int 0, .int 0]) := hC
  refine J_aload_n dX8_init_37 rfl rfl ?_
  refine K_new (kb := 97) (sb := 908) dX8_init_38 nX8_22 hf (fun w7 u7 => ?_)
  have c1 := (u7.2.1 _ (by omega)).trans c1
  have c3 := (u7.2.1 _ (by omega)).trans c3
  have c5 := (u7.2.1 _ (by omega)).trans c5
  have hC := (u7.2.1 _ (by omega)).trans hC
  have e7 : 100 + w6.2.1 = a + 28 := by omega
  rw [e7]
  have c7 := e7 ▸ u7.1
  have hn : w7.2.1 = n + 28 := by rw [u7.2.2.1]; omega
  have hf := u7.2.2.2
  refine J_dup dX8_init_41 rfl ?_
  refine K_callIp (kb := 15) (sb := 188) dX8_init_42 YX3_init rfl rfl kX8_24 (c_X3_init c7 hn (by omega) hf) rfl rfl (Nat.le_of_ble_eq_true rfl) (by decide) (fun v42 w42 q42 => ?_)
  obtain ⟨rfl, hN42, rH42⟩ := q42
  have c1 := (hN42.1 _ (by omega)).trans c1
  have c3 := (hN42.1 _ (by omega)).trans c3
  have c5 := (hN42.1 _ (by omega)).trans c5
  have hC := (hN42.1 _ (by omega)).trans hC
  have hn : w42.2.1 = n + 110 := by have := hN42.2.1; omega
  have hf := hN42.2.2
  refine K_putR dX8_init_45 fX8_25 (Or.inr ⟨rfl, rfl⟩) hC (Nat.le_of_ble_eq_true rfl) (by first | exact Or.inl ⟨_, rfl⟩ | exact Or.inr ⟨_, rfl⟩) (fun w8 u8 => ?_)
  have c1 := (u8.2.1 _ (by omega)).trans c1
  have c3 := (u8.2.1 _ (by omega)).trans c3
  have c5 := (u8.2.1 _ (by omega)).trans c5
  have c7 := (u8.2.1 _ (by omega)).trans c7
  have hC := u8.1
  have hn := (congrArg Prod.fst u8.2.2).trans hn
  have hf := (congrArg Prod.snd u8.2.2).trans hf
  have hC : w8.1 a = .inr (8, [.ref (a + 1), .ref (a + 10), .ref (a + 19), .ref (a + 28), .null, .null, .null, .null, .int 0, .int 0, .int 0]) := hC
  refine J_aload_n dX8_init_48 rfl rfl ?_
  refine K_new (kb := 14) (sb := 185) dX8_init_49 nX8_29 hf (fun w9 u9 => ?_)
  have c1 := (u9.2.1 _ (by omega)).trans c1
  have c3 := (u9.2.1 _ (by omega)).trans c3
  have c5 := (u9.2.1 _ (by omega)).trans c5
  have c7 := (u9.2.1 _ (by omega)).trans c7
  have hC := (u9.2.1 _ (by omega)).trans hC
  have e9 : 100 + w8.2.1 = a + 111 := by omega
  rw [e9]
  have c9 := e9 ▸ u9.1
  have hn : w9.2.1 = n + 111 := by rw [u9.2.2.1]; omega
  have hf := u9.2.2.2
  refine J_dup dX8_init_52 rfl ?_
  refine K_callINp (kb := 11) (sb := 143) dX8_init_53 YX6_init rfl rfl kX8_31 (c_X6_init c9 hn (by omega) hf) rfl rfl (Nat.le_of_ble_eq_true rfl) (by decide) (fun v53 w53 q53 => ?_)
  obtain ⟨rfl, hN53, rR53⟩ := q53
  have c1 := (hN53.1 _ (by omega)).trans c1
  have c3 := (hN53.1 _ (by omega)).trans c3
  have c5 := (hN53.1 _ (by omega)).trans c5
  have c7 := (hN53.1 _ (by omega)).trans c7
  have hC := (hN53.1 _ (by omega)).trans hC
  have hn : w53.2.1 = n + 114 := by have := hN53.2.1; omega
  have hf := hN53.2.2
  refine K_putR dX8_init_56 fX8_32 (Or.inr ⟨rfl, rfl⟩) hC (Nat.le_of_ble_eq_true rfl) (by first | exact Or.inl ⟨_, rfl⟩ | exact Or.inr ⟨_, rfl⟩) (fun w10 u10 => ?_)
  have c1 := (u10.2.1 _ (by omega)).trans c1
  have c3 := (u10.2.1 _ (by omega)).trans c3
  have c5 := (u10.2.1 _ (by omega)).trans c5
  have c7 := (u10.2.1 _ (by omega)).trans c7
  have c9 := (u10.2.1 _ (by omega)).trans c9
  have hC := u10.1
  have hn := (congrArg Prod.fst u10.2.2).trans hn
  have hf := (congrArg Prod.snd u10.2.2).trans hf
  have hC : w10.1 a = .inr (8, [.ref (a + 1), .ref (a + 10), .ref (a + 19), .ref (a + 28), .ref (a + 111), .null, .null, .null, .int 0, .int 0, .int 0]) := hC
  refine J_aload_n dX8_init_59 rfl rfl ?_
  refine K_new (kb := 10) (sb := 140) dX8_init_60 nX8_36 hf (fun w11 u11 => ?_)
  have c1 := (u11.2.1 _ (by omega)).trans c1
  have c3 := (u11.2.1 _ (by omega)).trans c3
  have c5 := (u11.2.1 _ (by omega)).trans c5
  have c7 := (u11.2.1 _ (by omega)).trans c7
  have c9 := (u11.2.1 _ (by omega)).trans c9
  have hC := (u11.2.1 _ (by omega)).trans hC
  have e11 : 100 + w10.2.1 = a + 115 := by omega
  rw [e11]
  have c11 := e11 ▸ u11.1
  have hn : w11.2.1 = n + 115 := by rw [u11.2.2.1]; omega
  have hf := u11.2.2.2
  refine J_dup dX8_init_63 rfl ?_
  refine K_callINp (kb := 4) (sb := 83) dX8_init_64 YX7_init rfl rfl kX8_38 (c_X7_init c11 hn (by omega) hf) rfl rfl (Nat.le_of_ble_eq_true rfl) (by decide) (fun v64 w64 q64 => ?_)
  obtain ⟨rfl, hN64, rT64⟩ := q64
  have c1 := (hN64.1 _ (by omega)).trans c1
  have c3 := (hN64.1 _ (by omega)).trans c3
  have c5 := (hN64.1 _ (by omega)).trans c5
  have c7 := (hN64.1 _ (by omega)).trans c7
  have c9 := (hN64.1 _ (by omega)).trans c9
  have hC := (hN64.1 _ (by omega)).trans hC
  have hn : w64.2.1 = n + 121 := by have := hN64.2.1; omega
  have hf := hN64.2.2
  refine K_putR dX8_init_67 fX8_39 (Or.inr ⟨rfl, rfl⟩) hC (Nat.le_of_ble_eq_true rfl) (by first | exact Or.inl ⟨_, rfl⟩ | exact Or.inr ⟨_, rfl⟩) (fun w12 u12 => ?_)
  have c1 := (u12.2.1 _ (by omega)).trans c1
  have c11 := (u12.2.1 _ (by omega)).trans c11
  have c3 := (u12.2.1 _ (by omega)).trans c3
  have c5 := (u12.2.1 _ (by omega)).trans c5
  have c7 := (u12.2.1 _ (by omega)).trans c7
  have c9 := (u12.2.1 _ (by omega)).trans c9
  have hC := u12.1
  have hn := (congrArg Prod.fst u12.2.2).trans hn
  have hf := (congrArg Prod.snd u12.2.2).trans hf
  have hC : w12.1 a = .inr (8, [.ref (a + 1), .ref (a + 10), .ref (a + 19), .ref (a + 28), .ref (a + 111), .ref (a + 115), .null, .null, .int 0, .int 0, .int 0]) := hC
  refine J_aload_n dX8_init_70 rfl rfl ?_
  refine K_new (kb := 3) (sb := 76) dX8_init_71 nX8_43 hf (fun w13 u13 => ?_)
  have c1 := (u13.2.1 _ (by omega)).trans c1
  have c11 := (u13.2.1 _ (by omega)).trans c11
  have c3 := (u13.2.1 _ (by omega)).trans c3
  have c5 := (u13.2.1 _ (by omega)).trans c5
  have c7 := (u13.2.1 _ (by omega)).trans c7
  have c9 := (u13.2.1 _ (by omega)).trans c9
  have hC := (u13.2.1 _ (by omega)).trans hC
  have e13 : 100 + w12.2.1 = a + 122 := by omega
  rw [e13]
  have c13 := e13 ▸ u13.1
  have hn : w13.2.1 = n + 122 := by rw [u13.2.2.1]; omega
  have hf := u13.2.2.2
  refine J_dup dX8_init_74 rfl ?_
  refine K_callINp (kb := 2) (sb := 16) dX8_init_75 YX2_init rfl rfl kX8_45 (c_X2_init c13 hn (by omega) hf) rfl rfl (Nat.le_of_ble_eq_true rfl) (by decide) (fun v75 w75 q75 => ?_)
  obtain ⟨rfl, hN75, rD75⟩ := q75
  have c1 := (hN75.1 _ (by omega)).trans c1
  have c11 := (hN75.1 _ (by omega)).trans c11
  have c3 := (hN75.1 _ (by omega)).trans c3
  have c5 := (hN75.1 _ (by omega)).trans c5
  have c7 := (hN75.1 _ (by omega)).trans c7
  have c9 := (hN75.1 _ (by omega)).trans c9
  have hC := (hN75.1 _ (by omega)).trans hC
  have hn : w75.2.1 = n + 123 := by have := hN75.2.1; omega
  have hf := hN75.2.2
  refine K_putR dX8_init_78 fX8_46 (Or.inr ⟨rfl, rfl⟩) hC (Nat.le_of_ble_eq_true rfl) (by first | exact Or.inl ⟨_, rfl⟩ | exact Or.inr ⟨_, rfl⟩) (fun w14 u14 => ?_)
  have c1 := (u14.2.1 _ (by omega)).trans c1
  have c11 := (u14.2.1 _ (by omega)).trans c11
  have c13 := (u14.2.1 _ (by omega)).trans c13
  have c3 := (u14.2.1 _ (by omega)).trans c3
  have c5 := (u14.2.1 _ (by omega)).trans c5
  have c7 := (u14.2.1 _ (by omega)).trans c7
  have c9 := (u14.2.1 _ (by omega)).trans c9
  have hC := u14.1
  have hn := (congrArg Prod.fst u14.2.2).trans hn
  have hf := (congrArg Prod.snd u14.2.2).trans hf
  have hC : w14.1 a = .inr (8, [.ref (a + 1), .ref (a + 10), .ref (a + 19), .ref (a + 28), .ref (a + 111), .ref (a + 115), .ref (a + 122), .null, .int 0, .int 0, .int 0]) := hC
  refine J_aload_n dX8_init_81 rfl rfl ?_
  refine K_new (kb := 1) (sb := 14) dX8_init_82 nX8_50 hf (fun w15 u15 => ?_)
  have c1 := (u15.2.1 _ (by omega)).trans c1
  have c11 := (u15.2.1 _ (by omega)).trans c11
  have c13 := (u15.2.1 _ (by omega)).trans c13
  have c3 := (u15.2.1 _ (by omega)).trans c3
  have c5 := (u15.2.1 _ (by omega)).trans c5
  have c7 := (u15.2.1 _ (by omega)).trans c7
  have c9 := (u15.2.1 _ (by omega)).trans c9
  have hC := (u15.2.1 _ (by omega)).trans hC
  have e15 : 100 + w14.2.1 = a + 124 := by omega
  rw [e15]
  have c15 := e15 ▸ u15.1
  have hn : w15.2.1 = n + 124 := by rw [u15.2.2.1]; omega
  have hf := u15.2.2.2
  refine J_dup dX8_init_85 rfl ?_
  refine K_callINp (kb := 0) (sb := 0) dX8_init_86 YX5_init rfl rfl kX8_52 (c_X5_init c15 hn (by omega) hf) rfl rfl (Nat.le_of_ble_eq_true rfl) (by decide) (fun v86 w86 q86 => ?_)
  obtain ⟨rfl, hN86, rO86⟩ := q86
  have c1 := (hN86.1 _ (by omega)).trans c1
  have c11 := (hN86.1 _ (by omega)).trans c11
  have c13 := (hN86.1 _ (by omega)).trans c13
  have c3 := (hN86.1 _ (by omega)).trans c3
  have c5 := (hN86.1 _ (by omega)).trans c5
  have c7 := (hN86.1 _ (by omega)).trans c7
  have c9 := (hN86.1 _ (by omega)).trans c9
  have hC := (hN86.1 _ (by omega)).trans hC
  have hn : w86.2.1 = n + 125 := by have := hN86.2.1; omega
  have hf := hN86.2.2
  refine K_putR dX8_init_89 fX8_53 (Or.inr ⟨rfl, rfl⟩) hC (Nat.le_of_ble_eq_true rfl) (by first | exact Or.inl ⟨_, rfl⟩ | exact Or.inr ⟨_, rfl⟩) (fun w16 u16 => ?_)
  have c1 := (u16.2.1 _ (by omega)).trans c1
  have c11 := (u16.2.1 _ (by omega)).trans c11
  have c13 := (u16.2.1 _ (by omega)).trans c13
  have c15 := (u16.2.1 _ (by omega)).trans c15
  have c3 := (u16.2.1 _ (by omega)).trans c3
  have c5 := (u16.2.1 _ (by omega)).trans c5
  have c7 := (u16.2.1 _ (by omega)).trans c7
  have c9 := (u16.2.1 _ (by omega)).trans c9
  have hC := u16.1
  have hn := (congrArg Prod.fst u16.2.2).trans hn
  have hf := (congrArg Prod.snd u16.2.2).trans hf
  have hC : w16.1 a = .inr (8, [.ref (a + 1), .ref (a + 10), .ref (a + 19), .ref (a + 28), .ref (a + 111), .ref (a + 115), .ref (a + 122), .ref (a + 124), .int 0, .int 0, .int 0]) := hC
  refine J_aload_n dX8_init_92 rfl rfl ?_
  refine J_iconst (v := nI 0) dX8_init_93 (by decide) ?_
  refine K_putZ dX8_init_94 fX8_57 (Or.inl rfl) hC (Nat.le_of_ble_eq_true rfl) (Or.inl rfl) (fun w17 u17 => ?_)
  have c1 := (u17.2.1 _ (by omega)).trans c1
  have c11 := (u17.2.1 _ (by omega)).trans c11
  have c13 := (u17.2.1 _ (by omega)).trans c13
  have c15 := (u17.2.1 _ (by omega)).trans c15
  have c3 := (u17.2.1 _ (by omega)).trans c3
  have c5 := (u17.2.1 _ (by omega)).trans c5
  have c7 := (u17.2.1 _ (by omega)).trans c7
  have c9 := (u17.2.1 _ (by omega)).trans c9
  have hC := u17.1
  have hn := (congrArg Prod.fst u17.2.2).trans hn
  have hf := (congrArg Prod.snd u17.2.2).trans hf
  have hC : w17.1 a = .inr (8, [.ref (a + 1), .ref (a + 10), .ref (a + 19), .ref (a + 28), .ref (a + 111), .ref (a + 115), .ref (a + 122), .ref (a + 124), .int (nI 0), .int 0, .int 0]) := hC
  refine J_aload_n dX8_init_97 rfl rfl ?_
  refine J_iconst (v := (-1)) dX8_init_98 (by decide) ?_
  refine K_putI dX8_init_99 fX8_61 (Or.inl rfl) hC (Nat.le_of_ble_eq_true rfl) (fun w18 u18 => ?_)
  have c1 := (u18.2.1 _ (by omega)).trans c1
  have c11 := (u18.2.1 _ (by omega)).trans c11
  have c13 := (u18.2.1 _ (by omega)).trans c13
  have c15 := (u18.2.1 _ (by omega)).trans c15
  have c3 := (u18.2.1 _ (by omega)).trans c3
  have c5 := (u18.2.1 _ (by omega)).trans c5
  have c7 := (u18.2.1 _ (by omega)).trans c7
  have c9 := (u18.2.1 _ (by omega)).trans c9
  have hC := u18.1
  have hn := (congrArg Prod.fst u18.2.2).trans hn
  have hf := (congrArg Prod.snd u18.2.2).trans hf
  have hC : w18.1 a = .inr (8, [.ref (a + 1), .ref (a + 10), .ref (a + 19), .ref (a + 28), .ref (a + 111), .ref (a + 115), .ref (a + 122), .ref (a + 124), .int (nI 0), .int ((-1)), .int 0]) := hC
  refine J_aload_n dX8_init_102 rfl rfl ?_
  refine J_iconst (v := (-1)) dX8_init_103 (by decide) ?_
  refine K_putI dX8_init_104 fX8_65 (Or.inl rfl) hC (Nat.le_of_ble_eq_true rfl) (fun w19 u19 => ?_)
  have c1 := (u19.2.1 _ (by omega)).trans c1
  have c11 := (u19.2.1 _ (by omega)).trans c11
  have c13 := (u19.2.1 _ (by omega)).trans c13
  have c15 := (u19.2.1 _ (by omega)).trans c15
  have c3 := (u19.2.1 _ (by omega)).trans c3
  have c5 := (u19.2.1 _ (by omega)).trans c5
  have c7 := (u19.2.1 _ (by omega)).trans c7
  have c9 := (u19.2.1 _ (by omega)).trans c9
  have hC := u19.1
  have hn := (congrArg Prod.fst u19.2.2).trans hn
  have hf := (congrArg Prod.snd u19.2.2).trans hf
  have hC : w19.1 a = .inr (8, [.ref (a + 1), .ref (a + 10), .ref (a + 19), .ref (a + 28), .ref (a + 111), .ref (a + 115), .ref (a + 122), .ref (a + 124), .int (nI 0), .int ((-1)), .int ((-1))]) := hC
  exact J_return dX8_init_107 rfl (RP_i ⟨rfl, ⟨fun b hb => (u19.2.1 b (by omega)).trans ((u18.2.1 b (by omega)).trans ((u17.2.1 b (by omega)).trans ((u16.2.1 b (by omega)).trans ((hN86.1 b (by omega)).trans ((u15.2.1 b (by omega)).trans ((u14.2.1 b (by omega)).trans ((hN75.1 b (by omega)).trans ((u13.2.1 b (by omega)).trans ((u12.2.1 b (by omega)).trans ((hN64.1 b (by omega)).trans ((u11.2.1 b (by omega)).trans ((u10.2.1 b (by omega)).trans ((hN53.1 b (by omega)).trans ((u9.2.1 b (by omega)).trans ((u8.2.1 b (by omega)).trans ((hN42.1 b (by omega)).trans ((u7.2.1 b (by omega)).trans ((u6.2.1 b (by omega)).trans ((hN31.1 b (by omega)).trans ((u5.2.1 b (by omega)).trans ((u4.2.1 b (by omega)).trans ((hN20.1 b (by omega)).trans ((u3.2.1 b (by omega)).trans ((u2.2.1 b (by omega)).trans ((hN9.1 b (by omega)).trans ((u1.2.1 b (by omega)).trans (rfl))))))))))))))))))))))))))), by omega, hf⟩, hC, rC9.kept (fun j hj => (u19.2.1 _ (by omega)).trans ((u18.2.1 _ (by omega)).trans ((u17.2.1 _ (by omega)).trans ((u16.2.1 _ (by omega)).trans ((hN86.1 _ (by omega)).trans ((u15.2.1 _ (by omega)).trans ((u14.2.1 _ (by omega)).trans ((hN75.1 _ (by omega)).trans ((u13.2.1 _ (by omega)).trans ((u12.2.1 _ (by omega)).trans ((hN64.1 _ (by omega)).trans ((u11.2.1 _ (by omega)).trans ((u10.2.1 _ (by omega)).trans ((hN53.1 _ (by omega)).trans ((u9.2.1 _ (by omega)).trans ((u8.2.1 _ (by omega)).trans ((hN42.1 _ (by omega)).trans ((u7.2.1 _ (by omega)).trans ((u6.2.1 _ (by omega)).trans ((hN31.1 _ (by omega)).trans ((u5.2.1 _ (by omega)).trans ((u4.2.1 _ (by omega)).trans ((hN20.1 _ (by omega)).trans ((u3.2.1 _ (by omega)).trans ((u2.2.1 _ (by omega)).trans (rfl)))))))))))))))))))))))))), rC20.kept (fun j hj => (u19.2.1 _ (by omega)).trans ((u18.2.1 _ (by omega)).trans ((u17.2.1 _ (by omega)).trans ((u16.2.1 _ (by omega)).trans ((hN86.1 _ (by omega)).trans ((u15.2.1 _ (by omega)).trans ((u14.2.1 _ (by omega)).trans ((hN75.1 _ (by omega)).trans ((u13.2.1 _ (by omega)).trans ((u12.2.1 _ (by omega)).trans ((hN64.1 _ (by omega)).trans ((u11.2.1 _ (by omega)).trans ((u10.2.1 _ (by omega)).trans ((hN53.1 _ (by omega)).trans ((u9.2.1 _ (by omega)).trans ((u8.2.1 _ (by omega)).trans ((hN42.1 _ (by omega)).trans ((u7.2.1 _ (by omega)).trans ((u6.2.1 _ (by omega)).trans ((hN31.1 _ (by omega)).trans ((u5.2.1 _ (by omega)).trans ((u4.2.1 _ (by omega)).trans (rfl))))))))))))))))))))))), rC31.kept (fun j hj => (u19.2.1 _ (by omega)).trans ((u18.2.1 _ (by omega)).trans ((u17.2.1 _ (by omega)).trans ((u16.2.1 _ (by omega)).trans ((hN86.1 _ (by omega)).trans ((u15.2.1 _ (by omega)).trans ((u14.2.1 _ (by omega)).trans ((hN75.1 _ (by omega)).trans ((u13.2.1 _ (by omega)).trans ((u12.2.1 _ (by omega)).trans ((hN64.1 _ (by omega)).trans ((u11.2.1 _ (by omega)).trans ((u10.2.1 _ (by omega)).trans ((hN53.1 _ (by omega)).trans ((u9.2.1 _ (by omega)).trans ((u8.2.1 _ (by omega)).trans ((hN42.1 _ (by omega)).trans ((u7.2.1 _ (by omega)).trans ((u6.2.1 _ (by omega)).trans (rfl)))))))))))))))))))), rH42.kp (fun j hj => (u19.2.1 _ (by omega)).trans ((u18.2.1 _ (by omega)).trans ((u17.2.1 _ (by omega)).trans ((u16.2.1 _ (by omega)).trans ((hN86.1 _ (by omega)).trans ((u15.2.1 _ (by omega)).trans ((u14.2.1 _ (by omega)).trans ((hN75.1 _ (by omega)).trans ((u13.2.1 _ (by omega)).trans ((u12.2.1 _ (by omega)).trans ((hN64.1 _ (by omega)).trans ((u11.2.1 _ (by omega)).trans ((u10.2.1 _ (by omega)).trans ((hN53.1 _ (by omega)).trans ((u9.2.1 _ (by omega)).trans ((u8.2.1 _ (by omega)).trans (rfl))))))))))))))))), rR53.kp (fun j hj => (u19.2.1 _ (by omega)).trans ((u18.2.1 _ (by omega)).trans ((u17.2.1 _ (by omega)).trans ((u16.2.1 _ (by omega)).trans ((hN86.1 _ (by omega)).trans ((u15.2.1 _ (by omega)).trans ((u14.2.1 _ (by omega)).trans ((hN75.1 _ (by omega)).trans ((u13.2.1 _ (by omega)).trans ((u12.2.1 _ (by omega)).trans ((hN64.1 _ (by omega)).trans ((u11.2.1 _ (by omega)).trans ((u10.2.1 _ (by omega)).trans (rfl)))))))))))))), rT64.kp (fun j hj => (u19.2.1 _ (by omega)).trans ((u18.2.1 _ (by omega)).trans ((u17.2.1 _ (by omega)).trans ((u16.2.1 _ (by omega)).trans ((hN86.1 _ (by omega)).trans ((u15.2.1 _ (by omega)).trans ((u14.2.1 _ (by omega)).trans ((hN75.1 _ (by omega)).trans ((u13.2.1 _ (by omega)).trans ((u12.2.1 _ (by omega)).trans (rfl))))))))))), rD75.kp (fun j hj => (u19.2.1 _ (by omega)).trans ((u18.2.1 _ (by omega)).trans ((u17.2.1 _ (by omega)).trans ((u16.2.1 _ (by omega)).trans ((hN86.1 _ (by omega)).trans ((u15.2.1 _ (by omega)).trans ((u14.2.1 _ (by omega)).trans (rfl)))))))), rO86.kp (fun j hj => (u19.2.1 _ (by omega)).trans ((u18.2.1 _ (by omega)).trans ((u17.2.1 _ (by omega)).trans ((u16.2.1 _ (by omega)).trans (rfl)))))⟩)

end JINIT

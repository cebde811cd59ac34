/-! WHAT IS MADE: the constructors -/
section JINIT
set_option maxHeartbeats 8000000 in
theorem c_X8_init {w : Wd} {a n : Nat} (hC : w.1 a = .inr (8, [.null, .null, .null, .null, .null, .null, .null, .null, .int 0, .int 0, .int 0])) (hn : w.2.1 = n) (ha : a + 1 = 100 + n) (hf : w.2.2 = true) : MC 4 mX8_init 125 1148 [.ref a] w (RP (fun v w' => v = none ∧ NwF w w' a 126 ∧ w'.1 a = .inr (8, [.ref (a + 1), .ref (a + 10), .ref (a + 19), .ref (a + 28), .ref (a + 111), .ref (a + 115), .ref (a + 122), .ref (a + 124), .int (nI 0), .int (-1), .int (-1)]) ∧ RepC w' (a + 1) S0 ∧ RepC w' (a + 10) S0 ∧ RepC w' (a + 19) S0 ∧ RepH w' (a + 28) (fun _ => S0) 0 S0 ∧ RepR w' (a + 111) ∧ RepT w' (a + 115) ∧ RepD w' (a + 122) (fun _ => 0) 0 0 false 10 (nI 0) (nI 0) ∧ RepO w' (a + 124) [])) := by
  have hn0 := hn
  refine MC_j pnX8 rfl rfl rfl (Or.inr (fun E w h => RP_no E w h)) ?_
  show J 4 mX8_init 0 [some (.ref a)] [] w 125 1148 _
  refine J_aload_n dX8_init_0 rfl rfl ?_
  refine J_objInit dX8_init_1 kX8_3 (Nat.le_of_ble_eq_true rfl) (by decide) ?_
  refine J_aload_n dX8_init_4 rfl rfl ?_
  refine K_new (N := 15) (kb := 124) (sb := 1133) dX8_init_5 nX8_9 hf (fun w1 u1 => ?_)
  replace hC := (u1.2.1 _ (by omega)).trans hC
  have e1 : 100 + w.2.1 = a + 1 := by omega
  rw [e1]
  have c1 := e1 ▸ u1.1
  replace hn : w1.2.1 = n + 1 := by rw [u1.2.2.1]; omega
  replace hf := u1.2.2.2
  refine J_dup dX8_init_8 rfl ?_
  refine K_callINp (kb := 116) (sb := 1069) dX8_init_9 YX4_init rfl rfl kX8_11 (c_X4_init c1 hn (by omega) hf) rfl rfl (Nat.le_of_ble_eq_true rfl) (by decide) (fun v9 w9 q9 => ?_)
  obtain ⟨rfl, hN9, rC9⟩ := q9
  replace hC := (hN9.1 _ (by omega)).trans hC
  replace hn : w9.2.1 = n + 9 := by have := hN9.2.1; omega
  replace hf := hN9.2.2
  refine K_putR dX8_init_12 fX8_12 (Or.inr ⟨rfl, rfl⟩) hC (Nat.le_of_ble_eq_true rfl) (by first | exact Or.inl ⟨_, rfl⟩ | exact Or.inr ⟨_, rfl⟩) (fun w2 u2 => ?_)
  replace hC := u2.1
  replace hn := (congrArg Prod.fst u2.2.2).trans hn
  replace hf := (congrArg Prod.snd u2.2.2).trans hf
  replace hC : w2.1 a = .inr (8, [.ref (a + 1), .null, .null, .null, .null, .null, .null, .null, .int 0, .int 0, .int 0]) := hC
  refine J_aload_n dX8_init_15 rfl rfl ?_
  refine K_new (N := 15) (kb := 115) (sb := 1054) dX8_init_16 nX8_9 hf (fun w3 u3 => ?_)
  replace hC := (u3.2.1 _ (by omega)).trans hC
  have e3 : 100 + w2.2.1 = a + 10 := by omega
  rw [e3]
  have c3 := e3 ▸ u3.1
  replace hn : w3.2.1 = n + 10 := by rw [u3.2.2.1]; omega
  replace hf := u3.2.2.2
  refine J_dup dX8_init_19 rfl ?_
  refine K_callINp (kb := 107) (sb := 990) dX8_init_20 YX4_init rfl rfl kX8_11 (c_X4_init c3 hn (by omega) hf) rfl rfl (Nat.le_of_ble_eq_true rfl) (by decide) (fun v20 w20 q20 => ?_)
  obtain ⟨rfl, hN20, rC20⟩ := q20
  replace hC := (hN20.1 _ (by omega)).trans hC
  replace hn : w20.2.1 = n + 18 := by have := hN20.2.1; omega
  replace hf := hN20.2.2
  refine K_putR dX8_init_23 fX8_16 (Or.inr ⟨rfl, rfl⟩) hC (Nat.le_of_ble_eq_true rfl) (by first | exact Or.inl ⟨_, rfl⟩ | exact Or.inr ⟨_, rfl⟩) (fun w4 u4 => ?_)
  replace hC := u4.1
  replace hn := (congrArg Prod.fst u4.2.2).trans hn
  replace hf := (congrArg Prod.snd u4.2.2).trans hf
  replace hC : w4.1 a = .inr (8, [.ref (a + 1), .ref (a + 10), .null, .null, .null, .null, .null, .null, .int 0, .int 0, .int 0]) := hC
  refine J_aload_n dX8_init_26 rfl rfl ?_
  refine K_new (N := 15) (kb := 106) (sb := 975) dX8_init_27 nX8_9 hf (fun w5 u5 => ?_)
  replace hC := (u5.2.1 _ (by omega)).trans hC
  have e5 : 100 + w4.2.1 = a + 19 := by omega
  rw [e5]
  have c5 := e5 ▸ u5.1
  replace hn : w5.2.1 = n + 19 := by rw [u5.2.2.1]; omega
  replace hf := u5.2.2.2
  refine J_dup dX8_init_30 rfl ?_
  refine K_callINp (kb := 98) (sb := 911) dX8_init_31 YX4_init rfl rfl kX8_11 (c_X4_init c5 hn (by omega) hf) rfl rfl (Nat.le_of_ble_eq_true rfl) (by decide) (fun v31 w31 q31 => ?_)
  obtain ⟨rfl, hN31, rC31⟩ := q31
  replace hC := (hN31.1 _ (by omega)).trans hC
  replace hn : w31.2.1 = n + 27 := by have := hN31.2.1; omega
  replace hf := hN31.2.2
  refine K_putR dX8_init_34 fX8_19 (Or.inr ⟨rfl, rfl⟩) hC (Nat.le_of_ble_eq_true rfl) (by first | exact Or.inl ⟨_, rfl⟩ | exact Or.inr ⟨_, rfl⟩) (fun w6 u6 => ?_)
  replace hC := u6.1
  replace hn := (congrArg Prod.fst u6.2.2).trans hn
  replace hf := (congrArg Prod.snd u6.2.2).trans hf
  replace hC : w6.1 a = .inr (8, [.ref (a + 1), .ref (a + 10), .ref (a + 19), .null, .null, .null, .null, .null, .int 0, .int 0, .int 0]) := hC
  refine J_aload_n dX8_init_37 rfl rfl ?_
  refine K_new (N := 3) (kb := 97) (sb := 908) dX8_init_38 nX8_22 hf (fun w7 u7 => ?_)
  replace hC := (u7.2.1 _ (by omega)).trans hC
  have e7 : 100 + w6.2.1 = a + 28 := by omega
  rw [e7]
  have c7 := e7 ▸ u7.1
  replace hn : w7.2.1 = n + 28 := by rw [u7.2.2.1]; omega
  replace hf := u7.2.2.2
  refine J_dup dX8_init_41 rfl ?_
  refine K_callIp (kb := 15) (sb := 188) dX8_init_42 YX3_init rfl rfl kX8_24 (c_X3_init c7 hn (by omega) hf) rfl rfl (Nat.le_of_ble_eq_true rfl) (by decide) (fun v42 w42 q42 => ?_)
  obtain ⟨rfl, hN42, rH42⟩ := q42
  replace hC := (hN42.1 _ (by omega)).trans hC
  replace hn : w42.2.1 = n + 110 := by have := hN42.2.1; omega
  replace hf := hN42.2.2
  refine K_putR dX8_init_45 fX8_25 (Or.inr ⟨rfl, rfl⟩) hC (Nat.le_of_ble_eq_true rfl) (by first | exact Or.inl ⟨_, rfl⟩ | exact Or.inr ⟨_, rfl⟩) (fun w8 u8 => ?_)
  replace hC := u8.1
  replace hn := (congrArg Prod.fst u8.2.2).trans hn
  replace hf := (congrArg Prod.snd u8.2.2).trans hf
  replace hC : w8.1 a = .inr (8, [.ref (a + 1), .ref (a + 10), .ref (a + 19), .ref (a + 28), .null, .null, .null, .null, .int 0, .int 0, .int 0]) := hC
  refine J_aload_n dX8_init_48 rfl rfl ?_
  refine K_new (N := 3) (kb := 14) (sb := 185) dX8_init_49 nX8_29 hf (fun w9 u9 => ?_)
  replace hC := (u9.2.1 _ (by omega)).trans hC
  have e9 : 100 + w8.2.1 = a + 111 := by omega
  rw [e9]
  have c9 := e9 ▸ u9.1
  replace hn : w9.2.1 = n + 111 := by rw [u9.2.2.1]; omega
  replace hf := u9.2.2.2
  refine J_dup dX8_init_52 rfl ?_
  refine K_callINp (kb := 11) (sb := 143) dX8_init_53 YX6_init rfl rfl kX8_31 (c_X6_init c9 hn (by omega) hf) rfl rfl (Nat.le_of_ble_eq_true rfl) (by decide) (fun v53 w53 q53 => ?_)
  obtain ⟨rfl, hN53, rR53⟩ := q53
  replace hC := (hN53.1 _ (by omega)).trans hC
  replace hn : w53.2.1 = n + 114 := by have := hN53.2.1; omega
  replace hf := hN53.2.2
  refine K_putR dX8_init_56 fX8_32 (Or.inr ⟨rfl, rfl⟩) hC (Nat.le_of_ble_eq_true rfl) (by first | exact Or.inl ⟨_, rfl⟩ | exact Or.inr ⟨_, rfl⟩) (fun w10 u10 => ?_)
  replace hC := u10.1
  replace hn := (congrArg Prod.fst u10.2.2).trans hn
  replace hf := (congrArg Prod.snd u10.2.2).trans hf
  replace hC : w10.1 a = .inr (8, [.ref (a + 1), .ref (a + 10), .ref (a + 19), .ref (a + 28), .ref (a + 111), .null, .null, .null, .int 0, .int 0, .int 0]) := hC
  refine J_aload_n dX8_init_59 rfl rfl ?_
  refine K_new (N := 3) (kb := 10) (sb := 140) dX8_init_60 nX8_36 hf (fun w11 u11 => ?_)
  replace hC := (u11.2.1 _ (by omega)).trans hC
  have e11 : 100 + w10.2.1 = a + 115 := by omega
  rw [e11]
  have c11 := e11 ▸ u11.1
  replace hn : w11.2.1 = n + 115 := by rw [u11.2.2.1]; omega
  replace hf := u11.2.2.2
  refine J_dup dX8_init_63 rfl ?_
  refine K_callINp (kb := 4) (sb := 83) dX8_init_64 YX7_init rfl rfl kX8_38 (c_X7_init c11 hn (by omega) hf) rfl rfl (Nat.le_of_ble_eq_true rfl) (by decide) (fun v64 w64 q64 => ?_)
  obtain ⟨rfl, hN64, rT64⟩ := q64
  replace hC := (hN64.1 _ (by omega)).trans hC
  replace hn : w64.2.1 = n + 121 := by have := hN64.2.1; omega
  replace hf := hN64.2.2
  refine K_putR dX8_init_67 fX8_39 (Or.inr ⟨rfl, rfl⟩) hC (Nat.le_of_ble_eq_true rfl) (by first | exact Or.inl ⟨_, rfl⟩ | exact Or.inr ⟨_, rfl⟩) (fun w12 u12 => ?_)
  replace hC := u12.1
  replace hn := (congrArg Prod.fst u12.2.2).trans hn
  replace hf := (congrArg Prod.snd u12.2.2).trans hf
  replace hC : w12.1 a = .inr (8, [.ref (a + 1), .ref (a + 10), .ref (a + 19), .ref (a + 28), .ref (a + 111), .ref (a + 115), .null, .null, .int 0, .int 0, .int 0]) := hC
  refine J_aload_n dX8_init_70 rfl rfl ?_
  refine K_new (N := 7) (kb := 3) (sb := 76) dX8_init_71 nX8_43 hf (fun w13 u13 => ?_)
  replace hC := (u13.2.1 _ (by omega)).trans hC
  have e13 : 100 + w12.2.1 = a + 122 := by omega
  rw [e13]
  have c13 := e13 ▸ u13.1
  replace hn : w13.2.1 = n + 122 := by rw [u13.2.2.1]; omega
  replace hf := u13.2.2.2
  refine J_dup dX8_init_74 rfl ?_
  refine K_callINp (kb := 2) (sb := 16) dX8_init_75 YX2_init rfl rfl kX8_45 (c_X2_init c13 hn (by omega) hf) rfl rfl (Nat.le_of_ble_eq_true rfl) (by decide) (fun v75 w75 q75 => ?_)
  obtain ⟨rfl, hN75, rD75⟩ := q75
  replace hC := (hN75.1 _ (by omega)).trans hC
  replace hn : w75.2.1 = n + 123 := by have := hN75.2.1; omega
  replace hf := hN75.2.2
  refine K_putR dX8_init_78 fX8_46 (Or.inr ⟨rfl, rfl⟩) hC (Nat.le_of_ble_eq_true rfl) (by first | exact Or.inl ⟨_, rfl⟩ | exact Or.inr ⟨_, rfl⟩) (fun w14 u14 => ?_)
  replace hC := u14.1
  replace hn := (congrArg Prod.fst u14.2.2).trans hn
  replace hf := (congrArg Prod.snd u14.2.2).trans hf
  replace hC : w14.1 a = .inr (8, [.ref (a + 1), .ref (a + 10), .ref (a + 19), .ref (a + 28), .ref (a + 111), .ref (a + 115), .ref (a + 122), .null, .int 0, .int 0, .int 0]) := hC
  refine J_aload_n dX8_init_81 rfl rfl ?_
  refine K_new (N := 2) (kb := 1) (sb := 14) dX8_init_82 nX8_50 hf (fun w15 u15 => ?_)
  replace hC := (u15.2.1 _ (by omega)).trans hC
  have e15 : 100 + w14.2.1 = a + 124 := by omega
  rw [e15]
  have c15 := e15 ▸ u15.1
  replace hn : w15.2.1 = n + 124 := by rw [u15.2.2.1]; omega
  replace hf := u15.2.2.2
  refine J_dup dX8_init_85 rfl ?_
  refine K_callINp (kb := 0) (sb := 0) dX8_init_86 YX5_init rfl rfl kX8_52 (c_X5_init c15 hn (by omega) hf) rfl rfl (Nat.le_of_ble_eq_true rfl) (by decide) (fun v86 w86 q86 => ?_)
  obtain ⟨rfl, hN86, rO86⟩ := q86
  replace hC := (hN86.1 _ (by omega)).trans hC
  replace hn : w86.2.1 = n + 125 := by have := hN86.2.1; omega
  replace hf := hN86.2.2
  refine K_putR dX8_init_89 fX8_53 (Or.inr ⟨rfl, rfl⟩) hC (Nat.le_of_ble_eq_true rfl) (by first | exact Or.inl ⟨_, rfl⟩ | exact Or.inr ⟨_, rfl⟩) (fun w16 u16 => ?_)
  replace hC := u16.1
  replace hn := (congrArg Prod.fst u16.2.2).trans hn
  replace hf := (congrArg Prod.snd u16.2.2).trans hf
  replace hC : w16.1 a = .inr (8, [.ref (a + 1), .ref (a + 10), .ref (a + 19), .ref (a + 28), .ref (a + 111), .ref (a + 115), .ref (a + 122), .ref (a + 124), .int 0, .int 0, .int 0]) := hC
  refine J_aload_n dX8_init_92 rfl rfl ?_
  refine J_iconst (v := nI 0) dX8_init_93 (by decide) ?_
  refine K_putZ dX8_init_94 fX8_57 (Or.inl rfl) hC (Nat.le_of_ble_eq_true rfl) (Or.inl rfl) (fun w17 u17 => ?_)
  replace hC := u17.1
  replace hn := (congrArg Prod.fst u17.2.2).trans hn
  replace hf := (congrArg Prod.snd u17.2.2).trans hf
  replace hC : w17.1 a = .inr (8, [.ref (a + 1), .ref (a + 10), .ref (a + 19), .ref (a + 28), .ref (a + 111), .ref (a + 115), .ref (a + 122), .ref (a + 124), .int (nI 0), .int 0, .int 0]) := hC
  refine J_aload_n dX8_init_97 rfl rfl ?_
  refine J_iconst (v := (-1)) dX8_init_98 (by decide) ?_
  refine K_putI dX8_init_99 fX8_61 (Or.inl rfl) hC (Nat.le_of_ble_eq_true rfl) (fun w18 u18 => ?_)
  replace hC := u18.1
  replace hn := (congrArg Prod.fst u18.2.2).trans hn
  replace hf := (congrArg Prod.snd u18.2.2).trans hf
  replace hC : w18.1 a = .inr (8, [.ref (a + 1), .ref (a + 10), .ref (a + 19), .ref (a + 28), .ref (a + 111), .ref (a + 115), .ref (a + 122), .ref (a + 124), .int (nI 0), .int ((-1)), .int 0]) := hC
  refine J_aload_n dX8_init_102 rfl rfl ?_
  refine J_iconst (v := (-1)) dX8_init_103 (by decide) ?_
  refine K_putI dX8_init_104 fX8_65 (Or.inl rfl) hC (Nat.le_of_ble_eq_true rfl) (fun w19 u19 => ?_)
  replace hC := u19.1
  replace hn := (congrArg Prod.fst u19.2.2).trans hn
  replace hf := (congrArg Prod.snd u19.2.2).trans hf
  replace hC : w19.1 a = .inr (8, [.ref (a + 1), .ref (a + 10), .ref (a + 19), .ref (a + 28), .ref (a + 111), .ref (a + 115), .ref (a + 122), .ref (a + 124), .int (nI 0), .int ((-1)), .int ((-1))]) := hC
  exact J_return dX8_init_107 rfl (RP_i ⟨rfl, ⟨fun b hb => (u19.2.1 b (by omega)).trans ((u18.2.1 b (by omega)).trans ((u17.2.1 b (by omega)).trans ((u16.2.1 b (by omega)).trans ((hN86.1 b (by omega)).trans ((u15.2.1 b (by omega)).trans ((u14.2.1 b (by omega)).trans ((hN75.1 b (by omega)).trans ((u13.2.1 b (by omega)).trans ((u12.2.1 b (by omega)).trans ((hN64.1 b (by omega)).trans ((u11.2.1 b (by omega)).trans ((u10.2.1 b (by omega)).trans ((hN53.1 b (by omega)).trans ((u9.2.1 b (by omega)).trans ((u8.2.1 b (by omega)).trans ((hN42.1 b (by omega)).trans ((u7.2.1 b (by omega)).trans ((u6.2.1 b (by omega)).trans ((hN31.1 b (by omega)).trans ((u5.2.1 b (by omega)).trans ((u4.2.1 b (by omega)).trans ((hN20.1 b (by omega)).trans ((u3.2.1 b (by omega)).trans ((u2.2.1 b (by omega)).trans ((hN9.1 b (by omega)).trans ((u1.2.1 b (by omega)).trans (rfl))))))))))))))))))))))))))), by omega, hf⟩, hC, rC9.kept (fun j hj => (u19.2.1 _ (by omega)).trans ((u18.2.1 _ (by omega)).trans ((u17.2.1 _ (by omega)).trans ((u16.2.1 _ (by omega)).trans ((hN86.1 _ (by omega)).trans ((u15.2.1 _ (by omega)).trans ((u14.2.1 _ (by omega)).trans ((hN75.1 _ (by omega)).trans ((u13.2.1 _ (by omega)).trans ((u12.2.1 _ (by omega)).trans ((hN64.1 _ (by omega)).trans ((u11.2.1 _ (by omega)).trans ((u10.2.1 _ (by omega)).trans ((hN53.1 _ (by omega)).trans ((u9.2.1 _ (by omega)).trans ((u8.2.1 _ (by omega)).trans ((hN42.1 _ (by omega)).trans ((u7.2.1 _ (by omega)).trans ((u6.2.1 _ (by omega)).trans ((hN31.1 _ (by omega)).trans ((u5.2.1 _ (by omega)).trans ((u4.2.1 _ (by omega)).trans ((hN20.1 _ (by omega)).trans ((u3.2.1 _ (by omega)).trans ((u2.2.1 _ (by omega)).trans (rfl)))))))))))))))))))))))))), rC20.kept (fun j hj => (u19.2.1 _ (by omega)).trans ((u18.2.1 _ (by omega)).trans ((u17.2.1 _ (by omega)).trans ((u16.2.1 _ (by omega)).trans ((hN86.1 _ (by omega)).trans ((u15.2.1 _ (by omega)).trans ((u14.2.1 _ (by omega)).trans ((hN75.1 _ (by omega)).trans ((u13.2.1 _ (by omega)).trans ((u12.2.1 _ (by omega)).trans ((hN64.1 _ (by omega)).trans ((u11.2.1 _ (by omega)).trans ((u10.2.1 _ (by omega)).trans ((hN53.1 _ (by omega)).trans ((u9.2.1 _ (by omega)).trans ((u8.2.1 _ (by omega)).trans ((hN42.1 _ (by omega)).trans ((u7.2.1 _ (by omega)).trans ((u6.2.1 _ (by omega)).trans ((hN31.1 _ (by omega)).trans ((u5.2.1 _ (by omega)).trans ((u4.2.1 _ (by omega)).trans (rfl))))))))))))))))))))))), rC31.kept (fun j hj => (u19.2.1 _ (by omega)).trans ((u18.2.1 _ (by omega)).trans ((u17.2.1 _ (by omega)).trans ((u16.2.1 _ (by omega)).trans ((hN86.1 _ (by omega)).trans ((u15.2.1 _ (by omega)).trans ((u14.2.1 _ (by omega)).trans ((hN75.1 _ (by omega)).trans ((u13.2.1 _ (by omega)).trans ((u12.2.1 _ (by omega)).trans ((hN64.1 _ (by omega)).trans ((u11.2.1 _ (by omega)).trans ((u10.2.1 _ (by omega)).trans ((hN53.1 _ (by omega)).trans ((u9.2.1 _ (by omega)).trans ((u8.2.1 _ (by omega)).trans ((hN42.1 _ (by omega)).trans ((u7.2.1 _ (by omega)).trans ((u6.2.1 _ (by omega)).trans (rfl)))))))))))))))))))), rH42.kp (fun j hj => (u19.2.1 _ (by omega)).trans ((u18.2.1 _ (by omega)).trans ((u17.2.1 _ (by omega)).trans ((u16.2.1 _ (by omega)).trans ((hN86.1 _ (by omega)).trans ((u15.2.1 _ (by omega)).trans ((u14.2.1 _ (by omega)).trans ((hN75.1 _ (by omega)).trans ((u13.2.1 _ (by omega)).trans ((u12.2.1 _ (by omega)).trans ((hN64.1 _ (by omega)).trans ((u11.2.1 _ (by omega)).trans ((u10.2.1 _ (by omega)).trans ((hN53.1 _ (by omega)).trans ((u9.2.1 _ (by omega)).trans ((u8.2.1 _ (by omega)).trans (rfl))))))))))))))))), rR53.kp (fun j hj => (u19.2.1 _ (by omega)).trans ((u18.2.1 _ (by omega)).trans ((u17.2.1 _ (by omega)).trans ((u16.2.1 _ (by omega)).trans ((hN86.1 _ (by omega)).trans ((u15.2.1 _ (by omega)).trans ((u14.2.1 _ (by omega)).trans ((hN75.1 _ (by omega)).trans ((u13.2.1 _ (by omega)).trans ((u12.2.1 _ (by omega)).trans ((hN64.1 _ (by omega)).trans ((u11.2.1 _ (by omega)).trans ((u10.2.1 _ (by omega)).trans (rfl)))))))))))))), rT64.kp (fun j hj => (u19.2.1 _ (by omega)).trans ((u18.2.1 _ (by omega)).trans ((u17.2.1 _ (by omega)).trans ((u16.2.1 _ (by omega)).trans ((hN86.1 _ (by omega)).trans ((u15.2.1 _ (by omega)).trans ((u14.2.1 _ (by omega)).trans ((hN75.1 _ (by omega)).trans ((u13.2.1 _ (by omega)).trans ((u12.2.1 _ (by omega)).trans (rfl))))))))))), rD75.kp (fun j hj => (u19.2.1 _ (by omega)).trans ((u18.2.1 _ (by omega)).trans ((u17.2.1 _ (by omega)).trans ((u16.2.1 _ (by omega)).trans ((hN86.1 _ (by omega)).trans ((u15.2.1 _ (by omega)).trans ((u14.2.1 _ (by omega)).trans (rfl)))))))), rO86.kp (fun j hj => (u19.2.1 _ (by omega)).trans ((u18.2.1 _ (by omega)).trans ((u17.2.1 _ (by omega)).trans ((u16.2.1 _ (by omega)).trans (rfl)))))⟩)

end JINIT

/-! THE LAYOUT: copies -/
section JCOPY
theorem c_X4_copyFrom {w : Wd} {a b : Nat} {S T : St} (hL : RepC w a T) (hM : RepC w b S) (hd : a + 9 ≤ b ∨ b + 9 ≤ a) : MC 2 mX4_copyFrom 0 0 [.ref a, .ref b] w (RP (fun v w' => v = none ∧ RepC w' a S ∧ Fr w w' a (a + 9))) := by
  have hL_ := hL
  obtain ⟨x4, x5, x6, f1, f2, f3, f4, f5, f6, f7, f8, hO, ⟨k1, k2, k3, k4, k5, k6, k7, k8⟩, ⟨bc, ba, bo⟩, hlen, hlk, htr, hwf⟩ := hL_
  have hnb := hwf.nb
  have hnt := hwf.nt
  have hM_ := hM
  obtain ⟨y4, y5, y6, g1, g2, g3, g4, g5, g6, g7, g8, gO, ⟨m1, m2, m3, m4, m5, m6, m7, m8⟩, ⟨cc, ca, co⟩, glen, glk, gtr, gwf⟩ := hM_
  have gnb := gwf.nb
  have gnt := gwf.nt
  refine MC_j pnX4 rfl rfl rfl (Or.inr (fun E w h => RP_no E w h)) ?_
  show J 2 mX4_copyFrom 0 [some (.ref a), some (.ref b)] [] w 0 0 _
  refine J_aload_n dX4_copyFrom_0 rfl rfl ?_
  refine J_aload_n dX4_copyFrom_1 rfl rfl ?_
  refine J_getfield dX4_copyFrom_2 fX4_9 gO rfl ?_
  refine K_putI dX4_copyFrom_5 fX4_9 (Or.inl rfl) hO (Nat.le_of_ble_eq_true rfl) (fun w1 u1 => ?_)
  have gO := (u1.2.1 _ (by omega)).trans gO
  have hO := u1.1
  have k1 := (u1.2.1 _ (by omega)).trans k1
  have k2 := (u1.2.1 _ (by omega)).trans k2
  have k3 := (u1.2.1 _ (by omega)).trans k3
  have k4 := (u1.2.1 _ (by omega)).trans k4
  have k5 := (u1.2.1 _ (by omega)).trans k5
  have k6 := (u1.2.1 _ (by omega)).trans k6
  have k7 := (u1.2.1 _ (by omega)).trans k7
  have k8 := (u1.2.1 _ (by omega)).trans k8
  have m1 := (u1.2.1 _ (by omega)).trans m1
  have m2 := (u1.2.1 _ (by omega)).trans m2
  have m3 := (u1.2.1 _ (by omega)).trans m3
  have m4 := (u1.2.1 _ (by omega)).trans m4
  have m5 := (u1.2.1 _ (by omega)).trans m5
  have m6 := (u1.2.1 _ (by omega)).trans m6
  have m7 := (u1.2.1 _ (by omega)).trans m7
  have m8 := (u1.2.1 _ (by omega)).trans m8
  have hO : w1.1 a = .inr (4, [.int (nI (sNb S)), .int (nI (sNt T)), .int (sTk T), .int (sAr T), .int x4, .int x5, .int x6, .ref (a + 1), .ref (a + 2), .ref (a + 3), .ref (a + 4), .ref (a + 5), .ref (a + 6), .ref (a + 7), .ref (a + 8)]) := hO
  refine J_aload_n dX4_copyFrom_8 rfl rfl ?_
  refine J_aload_n dX4_copyFrom_9 rfl rfl ?_
  refine J_getfield dX4_copyFrom_10 fX4_15 gO rfl ?_
  refine K_putI dX4_copyFrom_13 fX4_15 (Or.inl rfl) hO (Nat.le_of_ble_eq_true rfl) (fun w2 u2 => ?_)
  have gO := (u2.2.1 _ (by omega)).trans gO
  have hO := u2.1
  have k1 := (u2.2.1 _ (by omega)).trans k1
  have k2 := (u2.2.1 _ (by omega)).trans k2
  have k3 := (u2.2.1 _ (by omega)).trans k3
  have k4 := (u2.2.1 _ (by omega)).trans k4
  have k5 := (u2.2.1 _ (by omega)).trans k5
  have k6 := (u2.2.1 _ (by omega)).trans k6
  have k7 := (u2.2.1 _ (by omega)).trans k7
  have k8 := (u2.2.1 _ (by omega)).trans k8
  have m1 := (u2.2.1 _ (by omega)).trans m1
  have m2 := (u2.2.1 _ (by omega)).trans m2
  have m3 := (u2.2.1 _ (by omega)).trans m3
  have m4 := (u2.2.1 _ (by omega)).trans m4
  have m5 := (u2.2.1 _ (by omega)).trans m5
  have m6 := (u2.2.1 _ (by omega)).trans m6
  have m7 := (u2.2.1 _ (by omega)).trans m7
  have m8 := (u2.2.1 _ (by omega)).trans m8
  have hO : w2.1 a = .inr (4, [.int (nI (sNb S)), .int (nI (sNt S)), .int (sTk T), .int (sAr T), .int x4, .int x5, .int x6, .ref (a + 1), .ref (a + 2), .ref (a + 3), .ref (a + 4), .ref (a + 5), .ref (a + 6), .ref (a + 7), .ref (a + 8)]) := hO
  refine J_aload_n dX4_copyFrom_16 rfl rfl ?_
  refine J_aload_n dX4_copyFrom_17 rfl rfl ?_
  refine J_getfield dX4_copyFrom_18 fX4_18 gO rfl ?_
  refine K_putI dX4_copyFrom_21 fX4_18 (Or.inl rfl) hO (Nat.le_of_ble_eq_true rfl) (fun w3 u3 => ?_)
  have gO := (u3.2.1 _ (by omega)).trans gO
  have hO := u3.1
  have k1 := (u3.2.1 _ (by omega)).trans k1
  have k2 := (u3.2.1 _ (by omega)).trans k2
  have k3 := (u3.2.1 _ (by omega)).trans k3
  have k4 := (u3.2.1 _ (by omega)).trans k4
  have k5 := (u3.2.1 _ (by omega)).trans k5
  have k6 := (u3.2.1 _ (by omega)).trans k6
  have k7 := (u3.2.1 _ (by omega)).trans k7
  have k8 := (u3.2.1 _ (by omega)).trans k8
  have m1 := (u3.2.1 _ (by omega)).trans m1
  have m2 := (u3.2.1 _ (by omega)).trans m2
  have m3 := (u3.2.1 _ (by omega)).trans m3
  have m4 := (u3.2.1 _ (by omega)).trans m4
  have m5 := (u3.2.1 _ (by omega)).trans m5
  have m6 := (u3.2.1 _ (by omega)).trans m6
  have m7 := (u3.2.1 _ (by omega)).trans m7
  have m8 := (u3.2.1 _ (by omega)).trans m8
  have hO : w3.1 a = .inr (4, [.int (nI (sNb S)), .int (nI (sNt S)), .int (sTk S), .int (sAr T), .int x4, .int x5, .int x6, .ref (a + 1), .ref (a + 2), .ref (a + 3), .ref (a + 4), .ref (a + 5), .ref (a + 6), .ref (a + 7), .ref (a + 8)]) := hO
  refine J_aload_n dX4_copyFrom_24 rfl rfl ?_
  refine J_aload_n dX4_copyFrom_25 rfl rfl ?_
  refine J_getfield dX4_copyFrom_26 fX4_21 gO rfl ?_
  refine K_putI dX4_copyFrom_29 fX4_21 (Or.inl rfl) hO (Nat.le_of_ble_eq_true rfl) (fun w4 u4 => ?_)
  have gO := (u4.2.1 _ (by omega)).trans gO
  have hO := u4.1
  have k1 := (u4.2.1 _ (by omega)).trans k1
  have k2 := (u4.2.1 _ (by omega)).trans k2
  have k3 := (u4.2.1 _ (by omega)).trans k3
  have k4 := (u4.2.1 _ (by omega)).trans k4
  have k5 := (u4.2.1 _ (by omega)).trans k5
  have k6 := (u4.2.1 _ (by omega)).trans k6
  have k7 := (u4.2.1 _ (by omega)).trans k7
  have k8 := (u4.2.1 _ (by omega)).trans k8
  have m1 := (u4.2.1 _ (by omega)).trans m1
  have m2 := (u4.2.1 _ (by omega)).trans m2
  have m3 := (u4.2.1 _ (by omega)).trans m3
  have m4 := (u4.2.1 _ (by omega)).trans m4
  have m5 := (u4.2.1 _ (by omega)).trans m5
  have m6 := (u4.2.1 _ (by omega)).trans m6
  have m7 := (u4.2.1 _ (by omega)).trans m7
  have m8 := (u4.2.1 _ (by omega)).trans m8
  have hO : w4.1 a = .inr (4, [.int (nI (sNb S)), .int (nI (sNt S)), .int (sTk S), .int (sAr S), .int x4, .int x5, .int x6, .ref (a + 1), .ref (a + 2), .ref (a + 3), .ref (a + 4), .ref (a + 5), .ref (a + 6), .ref (a + 7), .ref (a + 8)]) := hO
  refine J_aload_n dX4_copyFrom_32 rfl rfl ?_
  refine J_aload_n dX4_copyFrom_33 rfl rfl ?_
  refine J_getfield dX4_copyFrom_34 fX4_24 gO rfl ?_
  refine K_putI dX4_copyFrom_37 fX4_24 (Or.inl rfl) hO (Nat.le_of_ble_eq_true rfl) (fun w5 u5 => ?_)
  have gO := (u5.2.1 _ (by omega)).trans gO
  have hO := u5.1
  have k1 := (u5.2.1 _ (by omega)).trans k1
  have k2 := (u5.2.1 _ (by omega)).trans k2
  have k3 := (u5.2.1 _ (by omega)).trans k3
  have k4 := (u5.2.1 _ (by omega)).trans k4
  have k5 := (u5.2.1 _ (by omega)).trans k5
  have k6 := (u5.2.1 _ (by omega)).trans k6
  have k7 := (u5.2.1 _ (by omega)).trans k7
  have k8 := (u5.2.1 _ (by omega)).trans k8
  have m1 := (u5.2.1 _ (by omega)).trans m1
  have m2 := (u5.2.1 _ (by omega)).trans m2
  have m3 := (u5.2.1 _ (by omega)).trans m3
  have m4 := (u5.2.1 _ (by omega)).trans m4
  have m5 := (u5.2.1 _ (by omega)).trans m5
  have m6 := (u5.2.1 _ (by omega)).trans m6
  have m7 := (u5.2.1 _ (by omega)).trans m7
  have m8 := (u5.2.1 _ (by omega)).trans m8
  have hO : w5.1 a = .inr (4, [.int (nI (sNb S)), .int (nI (sNt S)), .int (sTk S), .int (sAr S), .int (y4), .int x5, .int x6, .ref (a + 1), .ref (a + 2), .ref (a + 3), .ref (a + 4), .ref (a + 5), .ref (a + 6), .ref (a + 7), .ref (a + 8)]) := hO
  refine J_aload_n dX4_copyFrom_40 rfl rfl ?_
  refine J_aload_n dX4_copyFrom_41 rfl rfl ?_
  refine J_getfield dX4_copyFrom_42 fX4_27 gO rfl ?_
  refine K_putI dX4_copyFrom_45 fX4_27 (Or.inl rfl) hO (Nat.le_of_ble_eq_true rfl) (fun w6 u6 => ?_)
  have gO := (u6.2.1 _ (by omega)).trans gO
  have hO := u6.1
  have k1 := (u6.2.1 _ (by omega)).trans k1
  have k2 := (u6.2.1 _ (by omega)).trans k2
  have k3 := (u6.2.1 _ (by omega)).trans k3
  have k4 := (u6.2.1 _ (by omega)).trans k4
  have k5 := (u6.2.1 _ (by omega)).trans k5
  have k6 := (u6.2.1 _ (by omega)).trans k6
  have k7 := (u6.2.1 _ (by omega)).trans k7
  have k8 := (u6.2.1 _ (by omega)).trans k8
  have m1 := (u6.2.1 _ (by omega)).trans m1
  have m2 := (u6.2.1 _ (by omega)).trans m2
  have m3 := (u6.2.1 _ (by omega)).trans m3
  have m4 := (u6.2.1 _ (by omega)).trans m4
  have m5 := (u6.2.1 _ (by omega)).trans m5
  have m6 := (u6.2.1 _ (by omega)).trans m6
  have m7 := (u6.2.1 _ (by omega)).trans m7
  have m8 := (u6.2.1 _ (by omega)).trans m8
  have hO : w6.1 a = .inr (4, [.int (nI (sNb S)), .int (nI (sNt S)), .int (sTk S), .int (sAr S), .int (y4), .int (y5), .int x6, .ref (a + 1), .ref (a + 2), .ref (a + 3), .ref (a + 4), .ref (a + 5), .ref (a + 6), .ref (a + 7), .ref (a + 8)]) := hO
  refine J_aload_n dX4_copyFrom_48 rfl rfl ?_
  refine J_aload_n dX4_copyFrom_49 rfl rfl ?_
  refine J_getfield dX4_copyFrom_50 fX4_30 gO rfl ?_
  refine K_putI dX4_copyFrom_53 fX4_30 (Or.inl rfl) hO (Nat.le_of_ble_eq_true rfl) (fun w7 u7 => ?_)
  have gO := (u7.2.1 _ (by omega)).trans gO
  have hO := u7.1
  have k1 := (u7.2.1 _ (by omega)).trans k1
  have k2 := (u7.2.1 _ (by omega)).trans k2
  have k3 := (u7.2.1 _ (by omega)).trans k3
  have k4 := (u7.2.1 _ (by omega)).trans k4
  have k5 := (u7.2.1 _ (by omega)).trans k5
  have k6 := (u7.2.1 _ (by omega)).trans k6
  have k7 := (u7.2.1 _ (by omega)).trans k7
  have k8 := (u7.2.1 _ (by omega)).trans k8
  have m1 := (u7.2.1 _ (by omega)).trans m1
  have m2 := (u7.2.1 _ (by omega)).trans m2
  have m3 := (u7.2.1 _ (by omega)).trans m3
  have m4 := (u7.2.1 _ (by omega)).trans m4
  have m5 := (u7.2.1 _ (by omega)).trans m5
  have m6 := (u7.2.1 _ (by omega)).trans m6
  have m7 := (u7.2.1 _ (by omega)).trans m7
  have m8 := (u7.2.1 _ (by omega)).trans m8
  have hO : w7.1 a = .inr (4, [.int (nI (sNb S)), .int (nI (sNt S)), .int (sTk S), .int (sAr S), .int (y4), .int (y5), .int (y6), .ref (a + 1), .ref (a + 2), .ref (a + 3), .ref (a + 4), .ref (a + 5), .ref (a + 6), .ref (a + 7), .ref (a + 8)]) := hO
  refine J_aload_n dX4_copyFrom_56 rfl rfl ?_
  refine J_getfield dX4_copyFrom_57 fX4_33 gO rfl ?_
  refine J_iconst (v := nI 0) dX4_copyFrom_60 (by decide) ?_
  refine J_aload_n dX4_copyFrom_61 rfl rfl ?_
  refine J_getfield dX4_copyFrom_62 fX4_33 hO rfl ?_
  refine J_iconst (v := nI 0) dX4_copyFrom_65 (by decide) ?_
  refine J_bipush (v := nI 14) dX4_copyFrom_66 (by decide) ?_
  refine K_copyi dX4_copyFrom_68 kX4_58 m1 k1 (by decide) (Nat.le_of_ble_eq_true rfl) (by decide) (fun w8 c68 e68 u8 => ?_)
  have gO := (u8.2.1 _ (by omega)).trans gO
  have hO := (u8.2.1 _ (by omega)).trans hO
  have k1 := u8.1
  have k2 := (u8.2.1 _ (by omega)).trans k2
  have k3 := (u8.2.1 _ (by omega)).trans k3
  have k4 := (u8.2.1 _ (by omega)).trans k4
  have k5 := (u8.2.1 _ (by omega)).trans k5
  have k6 := (u8.2.1 _ (by omega)).trans k6
  have k7 := (u8.2.1 _ (by omega)).trans k7
  have k8 := (u8.2.1 _ (by omega)).trans k8
  have m1 := (u8.2.1 _ (by omega)).trans m1
  have m2 := (u8.2.1 _ (by omega)).trans m2
  have m3 := (u8.2.1 _ (by omega)).trans m3
  have m4 := (u8.2.1 _ (by omega)).trans m4
  have m5 := (u8.2.1 _ (by omega)).trans m5
  have m6 := (u8.2.1 _ (by omega)).trans m6
  have m7 := (u8.2.1 _ (by omega)).trans m7
  have m8 := (u8.2.1 _ (by omega)).trans m8
  refine J_aload_n dX4_copyFrom_71 rfl rfl ?_
  refine J_getfield dX4_copyFrom_72 fX4_37 gO rfl ?_
  refine J_iconst (v := nI 0) dX4_copyFrom_75 (by decide) ?_
  refine J_aload_n dX4_copyFrom_76 rfl rfl ?_
  refine J_getfield dX4_copyFrom_77 fX4_37 hO rfl ?_
  refine J_iconst (v := nI 0) dX4_copyFrom_80 (by decide) ?_
  refine J_bipush (v := nI 14) dX4_copyFrom_81 (by decide) ?_
  refine K_copyi dX4_copyFrom_83 kX4_58 m2 k2 (by decide) (Nat.le_of_ble_eq_true rfl) (by decide) (fun w9 c83 e83 u9 => ?_)
  have gO := (u9.2.1 _ (by omega)).trans gO
  have hO := (u9.2.1 _ (by omega)).trans hO
  have k1 := (u9.2.1 _ (by omega)).trans k1
  have k2 := u9.1
  have k3 := (u9.2.1 _ (by omega)).trans k3
  have k4 := (u9.2.1 _ (by omega)).trans k4
  have k5 := (u9.2.1 _ (by omega)).trans k5
  have k6 := (u9.2.1 _ (by omega)).trans k6
  have k7 := (u9.2.1 _ (by omega)).trans k7
  have k8 := (u9.2.1 _ (by omega)).trans k8
  have m1 := (u9.2.1 _ (by omega)).trans m1
  have m2 := (u9.2.1 _ (by omega)).trans m2
  have m3 := (u9.2.1 _ (by omega)).trans m3
  have m4 := (u9.2.1 _ (by omega)).trans m4
  have m5 := (u9.2.1 _ (by omega)).trans m5
  have m6 := (u9.2.1 _ (by omega)).trans m6
  have m7 := (u9.2.1 _ (by omega)).trans m7
  have m8 := (u9.2.1 _ (by omega)).trans m8
  refine J_aload_n dX4_copyFrom_86 rfl rfl ?_
  refine J_getfield dX4_copyFrom_87 fX4_40 gO rfl ?_
  refine J_iconst (v := nI 0) dX4_copyFrom_90 (by decide) ?_
  refine J_aload_n dX4_copyFrom_91 rfl rfl ?_
  refine J_getfield dX4_copyFrom_92 fX4_40 hO rfl ?_
  refine J_iconst (v := nI 0) dX4_copyFrom_95 (by decide) ?_
  refine J_bipush (v := nI 6) dX4_copyFrom_96 (by decide) ?_
  refine K_copyi dX4_copyFrom_98 kX4_58 m3 k3 (by decide) (Nat.le_of_ble_eq_true rfl) (by decide) (fun w10 c98 e98 u10 => ?_)
  have gO := (u10.2.1 _ (by omega)).trans gO
  have hO := (u10.2.1 _ (by omega)).trans hO
  have k1 := (u10.2.1 _ (by omega)).trans k1
  have k2 := (u10.2.1 _ (by omega)).trans k2
  have k3 := u10.1
  have k4 := (u10.2.1 _ (by omega)).trans k4
  have k5 := (u10.2.1 _ (by omega)).trans k5
  have k6 := (u10.2.1 _ (by omega)).trans k6
  have k7 := (u10.2.1 _ (by omega)).trans k7
  have k8 := (u10.2.1 _ (by omega)).trans k8
  have m1 := (u10.2.1 _ (by omega)).trans m1
  have m2 := (u10.2.1 _ (by omega)).trans m2
  have m3 := (u10.2.1 _ (by omega)).trans m3
  have m4 := (u10.2.1 _ (by omega)).trans m4
  have m5 := (u10.2.1 _ (by omega)).trans m5
  have m6 := (u10.2.1 _ (by omega)).trans m6
  have m7 := (u10.2.1 _ (by omega)).trans m7
  have m8 := (u10.2.1 _ (by omega)).trans m8
  refine J_aload_n dX4_copyFrom_101 rfl rfl ?_
  refine J_getfield dX4_copyFrom_102 fX4_43 gO rfl ?_
  refine J_iconst (v := nI 0) dX4_copyFrom_105 (by decide) ?_
  refine J_aload_n dX4_copyFrom_106 rfl rfl ?_
  refine J_getfield dX4_copyFrom_107 fX4_43 hO rfl ?_
  refine J_iconst (v := nI 0) dX4_copyFrom_110 (by decide) ?_
  refine J_bipush (v := nI 6) dX4_copyFrom_111 (by decide) ?_
  refine K_copyi dX4_copyFrom_113 kX4_58 m4 k4 (by decide) (Nat.le_of_ble_eq_true rfl) (by decide) (fun w11 c113 e113 u11 => ?_)
  have gO := (u11.2.1 _ (by omega)).trans gO
  have hO := (u11.2.1 _ (by omega)).trans hO
  have k1 := (u11.2.1 _ (by omega)).trans k1
  have k2 := (u11.2.1 _ (by omega)).trans k2
  have k3 := (u11.2.1 _ (by omega)).trans k3
  have k4 := u11.1
  have k5 := (u11.2.1 _ (by omega)).trans k5
  have k6 := (u11.2.1 _ (by omega)).trans k6
  have k7 := (u11.2.1 _ (by omega)).trans k7
  have k8 := (u11.2.1 _ (by omega)).trans k8
  have m1 := (u11.2.1 _ (by omega)).trans m1
  have m2 := (u11.2.1 _ (by omega)).trans m2
  have m3 := (u11.2.1 _ (by omega)).trans m3
  have m4 := (u11.2.1 _ (by omega)).trans m4
  have m5 := (u11.2.1 _ (by omega)).trans m5
  have m6 := (u11.2.1 _ (by omega)).trans m6
  have m7 := (u11.2.1 _ (by omega)).trans m7
  have m8 := (u11.2.1 _ (by omega)).trans m8
  refine J_aload_n dX4_copyFrom_116 rfl rfl ?_
  refine J_getfield dX4_copyFrom_117 fX4_46 gO rfl ?_
  refine J_iconst (v := nI 0) dX4_copyFrom_120 (by decide) ?_
  refine J_aload_n dX4_copyFrom_121 rfl rfl ?_
  refine J_getfield dX4_copyFrom_122 fX4_46 hO rfl ?_
  refine J_iconst (v := nI 0) dX4_copyFrom_125 (by decide) ?_
  refine J_bipush (v := nI 6) dX4_copyFrom_126 (by decide) ?_
  refine K_copyi dX4_copyFrom_128 kX4_58 m5 k5 (by decide) (Nat.le_of_ble_eq_true rfl) (by decide) (fun w12 c128 e128 u12 => ?_)
  have gO := (u12.2.1 _ (by omega)).trans gO
  have hO := (u12.2.1 _ (by omega)).trans hO
  have k1 := (u12.2.1 _ (by omega)).trans k1
  have k2 := (u12.2.1 _ (by omega)).trans k2
  have k3 := (u12.2.1 _ (by omega)).trans k3
  have k4 := (u12.2.1 _ (by omega)).trans k4
  have k5 := u12.1
  have k6 := (u12.2.1 _ (by omega)).trans k6
  have k7 := (u12.2.1 _ (by omega)).trans k7
  have k8 := (u12.2.1 _ (by omega)).trans k8
  have m1 := (u12.2.1 _ (by omega)).trans m1
  have m2 := (u12.2.1 _ (by omega)).trans m2
  have m3 := (u12.2.1 _ (by omega)).trans m3
  have m4 := (u12.2.1 _ (by omega)).trans m4
  have m5 := (u12.2.1 _ (by omega)).trans m5
  have m6 := (u12.2.1 _ (by omega)).trans m6
  have m7 := (u12.2.1 _ (by omega)).trans m7
  have m8 := (u12.2.1 _ (by omega)).trans m8
  refine J_aload_n dX4_copyFrom_131 rfl rfl ?_
  refine J_getfield dX4_copyFrom_132 fX4_49 gO rfl ?_
  refine J_iconst (v := nI 0) dX4_copyFrom_135 (by decide) ?_
  refine J_aload_n dX4_copyFrom_136 rfl rfl ?_
  refine J_getfield dX4_copyFrom_137 fX4_49 hO rfl ?_
  refine J_iconst (v := nI 0) dX4_copyFrom_140 (by decide) ?_
  refine J_bipush (v := nI 6) dX4_copyFrom_141 (by decide) ?_
  refine K_copyi dX4_copyFrom_143 kX4_58 m6 k6 (by decide) (Nat.le_of_ble_eq_true rfl) (by decide) (fun w13 c143 e143 u13 => ?_)
  have gO := (u13.2.1 _ (by omega)).trans gO
  have hO := (u13.2.1 _ (by omega)).trans hO
  have k1 := (u13.2.1 _ (by omega)).trans k1
  have k2 := (u13.2.1 _ (by omega)).trans k2
  have k3 := (u13.2.1 _ (by omega)).trans k3
  have k4 := (u13.2.1 _ (by omega)).trans k4
  have k5 := (u13.2.1 _ (by omega)).trans k5
  have k6 := u13.1
  have k7 := (u13.2.1 _ (by omega)).trans k7
  have k8 := (u13.2.1 _ (by omega)).trans k8
  have m1 := (u13.2.1 _ (by omega)).trans m1
  have m2 := (u13.2.1 _ (by omega)).trans m2
  have m3 := (u13.2.1 _ (by omega)).trans m3
  have m4 := (u13.2.1 _ (by omega)).trans m4
  have m5 := (u13.2.1 _ (by omega)).trans m5
  have m6 := (u13.2.1 _ (by omega)).trans m6
  have m7 := (u13.2.1 _ (by omega)).trans m7
  have m8 := (u13.2.1 _ (by omega)).trans m8
  refine J_aload_n dX4_copyFrom_146 rfl rfl ?_
  refine J_getfield dX4_copyFrom_147 fX4_52 gO rfl ?_
  refine J_iconst (v := nI 0) dX4_copyFrom_150 (by decide) ?_
  refine J_aload_n dX4_copyFrom_151 rfl rfl ?_
  refine J_getfield dX4_copyFrom_152 fX4_52 hO rfl ?_
  refine J_iconst (v := nI 0) dX4_copyFrom_155 (by decide) ?_
  refine J_bipush (v := nI 6) dX4_copyFrom_156 (by decide) ?_
  refine K_copyi dX4_copyFrom_158 kX4_58 m7 k7 (by decide) (Nat.le_of_ble_eq_true rfl) (by decide) (fun w14 c158 e158 u14 => ?_)
  have gO := (u14.2.1 _ (by omega)).trans gO
  have hO := (u14.2.1 _ (by omega)).trans hO
  have k1 := (u14.2.1 _ (by omega)).trans k1
  have k2 := (u14.2.1 _ (by omega)).trans k2
  have k3 := (u14.2.1 _ (by omega)).trans k3
  have k4 := (u14.2.1 _ (by omega)).trans k4
  have k5 := (u14.2.1 _ (by omega)).trans k5
  have k6 := (u14.2.1 _ (by omega)).trans k6
  have k7 := u14.1
  have k8 := (u14.2.1 _ (by omega)).trans k8
  have m1 := (u14.2.1 _ (by omega)).trans m1
  have m2 := (u14.2.1 _ (by omega)).trans m2
  have m3 := (u14.2.1 _ (by omega)).trans m3
  have m4 := (u14.2.1 _ (by omega)).trans m4
  have m5 := (u14.2.1 _ (by omega)).trans m5
  have m6 := (u14.2.1 _ (by omega)).trans m6
  have m7 := (u14.2.1 _ (by omega)).trans m7
  have m8 := (u14.2.1 _ (by omega)).trans m8
  refine J_aload_n dX4_copyFrom_161 rfl rfl ?_
  refine J_getfield dX4_copyFrom_162 fX4_55 gO rfl ?_
  refine J_iconst (v := nI 0) dX4_copyFrom_165 (by decide) ?_
  refine J_aload_n dX4_copyFrom_166 rfl rfl ?_
  refine J_getfield dX4_copyFrom_167 fX4_55 hO rfl ?_
  refine J_iconst (v := nI 0) dX4_copyFrom_170 (by decide) ?_
  refine J_bipush (v := nI 6) dX4_copyFrom_171 (by decide) ?_
  refine K_copyi dX4_copyFrom_173 kX4_58 m8 k8 (by decide) (Nat.le_of_ble_eq_true rfl) (by decide) (fun w15 c173 e173 u15 => ?_)
  have gO := (u15.2.1 _ (by omega)).trans gO
  have hO := (u15.2.1 _ (by omega)).trans hO
  have k1 := (u15.2.1 _ (by omega)).trans k1
  have k2 := (u15.2.1 _ (by omega)).trans k2
  have k3 := (u15.2.1 _ (by omega)).trans k3
  have k4 := (u15.2.1 _ (by omega)).trans k4
  have k5 := (u15.2.1 _ (by omega)).trans k5
  have k6 := (u15.2.1 _ (by omega)).trans k6
  have k7 := (u15.2.1 _ (by omega)).trans k7
  have k8 := u15.1
  have m1 := (u15.2.1 _ (by omega)).trans m1
  have m2 := (u15.2.1 _ (by omega)).trans m2
  have m3 := (u15.2.1 _ (by omega)).trans m3
  have m4 := (u15.2.1 _ (by omega)).trans m4
  have m5 := (u15.2.1 _ (by omega)).trans m5
  have m6 := (u15.2.1 _ (by omega)).trans m6
  have m7 := (u15.2.1 _ (by omega)).trans m7
  have m8 := (u15.2.1 _ (by omega)).trans m8
  exact J_return dX4_copyFrom_176 rfl (RP_i ⟨rfl, ⟨_, _, _, _, _, _, _, _, _, _, _, hO, ⟨k1, k2, k3, k4, k5, k6, k7, k8⟩, ⟨cc, ca, co⟩, (fun b hb => (e68 b (by omega)).trans (glen b hb)), (fun b hb => by rw [e83 b hb]; exact glk b hb), (fun t ht => ⟨(e98 t (by omega)).trans (gtr t ht).1, (e113 t (by omega)).trans (gtr t ht).2.1, (e128 t (by omega)).trans (gtr t ht).2.2.1, (e143 t (by omega)).trans (gtr t ht).2.2.2.1, (e158 t (by omega)).trans (gtr t ht).2.2.2.2.1, (e173 t (by omega)).trans (gtr t ht).2.2.2.2.2⟩), gwf⟩, ((((((((((((((((Fr.rf _ _ _).up u1 (by omega) (by omega)).up u2 (by omega) (by omega)).up u3 (by omega) (by omega)).up u4 (by omega) (by omega)).up u5 (by omega) (by omega)).up u6 (by omega) (by omega)).up u7 (by omega) (by omega)).up u8 (by omega) (by omega)).up u9 (by omega) (by omega)).up u10 (by omega) (by omega)).up u11 (by omega) (by omega)).up u12 (by omega) (by omega)).up u13 (by omega) (by omega)).up u14 (by omega) (by omega)).up u15 (by omega) (by omega))⟩)

end JCOPY

/-! THE MODEL: commands done; its making -/
section JMEXEC
theorem c_X9_does {w : Wd} {m : Nat} {x f7 : Nat → Int32} {S : St} (hA : MA w m x S) (m7 : w.1 (m + 7) = .inl (0, 180, .inl f7)) {k : Nat} {cm : Nat × List Nat} (hk : k < 59) (hcm : cm.1 < 9) (hC : CT f7 k cm) : MC 8 mX9_does 0 0 [.ref m, .int (nI k)] w (RP (fun v w' => ∃ y, v = some (.int (nI y)) ∧ y < 2 ^ 31 ∧ (y = 0 ↔ (doC S cm).1 = 0) ∧ FA w w' m ∧ ∃ x', MA w' m x' (doC S cm).2.2 ∧ ∀ k, k ≠ 17 → x' k = x k)) := by
  obtain ⟨f, g, h, mO, mS, mF, mK, hfit⟩ := id hA
  refine MC_j pnX9 rfl rfl rfl (Or.inr (fun E w h => RP_no E w h)) ?_
  show J 8 mX9_does 0 [some (.ref m), some (.int (nI k)), none, none] [] w 0 0 _
  obtain ⟨k0, ns⟩ := cm
  obtain ⟨hC1, hC2, hC3⟩ := hC
  have hk0 : k0 = 0 ∨ k0 = 1 ∨ k0 = 2 ∨ k0 = 3 ∨ k0 = 4 ∨ k0 = 5 ∨ k0 = 6 ∨ k0 = 7 ∨ k0 = 8 := by have : k0 < 9 := hcm; omega
  rcases hk0 with rfl | rfl | rfl | rfl | rfl | rfl | rfl | rfl | rfl
  · skip
    refine J_aload_n dX9_does_0 rfl rfl ?_
    refine J_getfield dX9_does_1 fX9_28 mO rfl ?_
    refine J_iconst (v := nI 3) dX9_does_4 (by decide) ?_
    refine J_iload_n dX9_does_5 rfl rfl ?_
    refine K_imul (v := nI (3 * k)) dX9_does_6 (nI_mul _ _) ?_
    refine J_iconst (v := nI 1) dX9_does_7 (by decide) ?_
    refine K_iadd (v := nI (3 * k + 1)) dX9_does_8 (nI_add _ _) ?_
    refine K_iald (v := nI (ns.getD 0 0)) dX9_does_9 m7 (by omega) (by decide) hC2 ?_
    refine J_istore_n dX9_does_10 rfl (by decide) rfl ?_
    refine J_aload_n dX9_does_11 rfl rfl ?_
    refine J_getfield dX9_does_12 fX9_28 mO rfl ?_
    refine J_iconst (v := nI 3) dX9_does_15 (by decide) ?_
    refine J_iload_n dX9_does_16 rfl rfl ?_
    refine K_imul (v := nI (3 * k)) dX9_does_17 (nI_mul _ _) ?_
    refine J_iconst (v := nI 2) dX9_does_18 (by decide) ?_
    refine K_iadd (v := nI (3 * k + 2)) dX9_does_19 (nI_add _ _) ?_
    refine K_iald (v := f7 (3 * k + 2)) dX9_does_20 m7 (by omega) (by decide) rfl ?_
    refine J_istore_n dX9_does_21 rfl (by decide) rfl ?_
    refine J_aload_n dX9_does_22 rfl rfl ?_
    refine J_getfield dX9_does_23 fX9_28 mO rfl ?_
    refine J_iconst (v := nI 3) dX9_does_26 (by decide) ?_
    refine J_iload_n dX9_does_27 rfl rfl ?_
    refine K_imul (v := nI (3 * k)) dX9_does_28 (nI_mul _ _) ?_
    refine K_iald (v := nI 98) dX9_does_29 m7 (by omega) (by decide) hC1 ?_
    refine J_tableIn (tgt := 120) (off := 90) dX9_does_30 (by decide) (by decide) (by decide) (by decide) ?_
    refine J_aload_n dX9_does_120 rfl rfl ?_
    refine J_iload_n dX9_does_121 rfl rfl ?_
    refine J_iconst (v := b2i false) dX9_does_122 (by decide) ?_
    refine K_callVp dX9_does_123 YX9_adds kX9_130 (rc_of mO rfl) (c_X9_adds hA (nI (ns.getD 0 0)) false) rfl rfl (Nat.le_of_ble_eq_true rfl) (by decide) (fun v123 w123 q123 => ?_)
    obtain ⟨rfl, hF, x1, hA1, hx1, hv1⟩ := q123
    exact J_ireturn dX9_does_126 rfl rfl (RP_i ⟨cod [2, 3] (oAdd S (nI (ns.getD 0 0)) false).1, rfl, cod_lt _ (by decide), cod_0, hF, x1, hA1, hx1⟩)
  · skip
    refine J_aload_n dX9_does_0 rfl rfl ?_
    refine J_getfield dX9_does_1 fX9_28 mO rfl ?_
    refine J_iconst (v := nI 3) dX9_does_4 (by decide) ?_
    refine J_iload_n dX9_does_5 rfl rfl ?_
    refine K_imul (v := nI (3 * k)) dX9_does_6 (nI_mul _ _) ?_
    refine J_iconst (v := nI 1) dX9_does_7 (by decide) ?_
    refine K_iadd (v := nI (3 * k + 1)) dX9_does_8 (nI_add _ _) ?_
    refine K_iald (v := nI (ns.getD 0 0)) dX9_does_9 m7 (by omega) (by decide) hC2 ?_
    refine J_istore_n dX9_does_10 rfl (by decide) rfl ?_
    refine J_aload_n dX9_does_11 rfl rfl ?_
    refine J_getfield dX9_does_12 fX9_28 mO rfl ?_
    refine J_iconst (v := nI 3) dX9_does_15 (by decide) ?_
    refine J_iload_n dX9_does_16 rfl rfl ?_
    refine K_imul (v := nI (3 * k)) dX9_does_17 (nI_mul _ _) ?_
    refine J_iconst (v := nI 2) dX9_does_18 (by decide) ?_
    refine K_iadd (v := nI (3 * k + 2)) dX9_does_19 (nI_add _ _) ?_
    refine K_iald (v := f7 (3 * k + 2)) dX9_does_20 m7 (by omega) (by decide) rfl ?_
    refine J_istore_n dX9_does_21 rfl (by decide) rfl ?_
    refine J_aload_n dX9_does_22 rfl rfl ?_
    refine J_getfield dX9_does_23 fX9_28 mO rfl ?_
    refine J_iconst (v := nI 3) dX9_does_26 (by decide) ?_
    refine J_iload_n dX9_does_27 rfl rfl ?_
    refine K_imul (v := nI (3 * k)) dX9_does_28 (nI_mul _ _) ?_
    refine K_iald (v := nI 99) dX9_does_29 m7 (by omega) (by decide) hC1 ?_
    refine J_tableIn (tgt := 127) (off := 97) dX9_does_30 (by decide) (by decide) (by decide) (by decide) ?_
    refine J_aload_n dX9_does_127 rfl rfl ?_
    refine J_iload_n dX9_does_128 rfl rfl ?_
    refine J_iconst (v := b2i true) dX9_does_129 (by decide) ?_
    refine K_callVp dX9_does_130 YX9_adds kX9_130 (rc_of mO rfl) (c_X9_adds hA (nI (ns.getD 0 0)) true) rfl rfl (Nat.le_of_ble_eq_true rfl) (by decide) (fun v130 w130 q130 => ?_)
    obtain ⟨rfl, hF, x1, hA1, hx1, hv1⟩ := q130
    exact J_ireturn dX9_does_133 rfl rfl (RP_i ⟨cod [2, 3] (oAdd S (nI (ns.getD 0 0)) true).1, rfl, cod_lt _ (by decide), cod_0, hF, x1, hA1, hx1⟩)
  · skip
    refine J_aload_n dX9_does_0 rfl rfl ?_
    refine J_getfield dX9_does_1 fX9_28 mO rfl ?_
    refine J_iconst (v := nI 3) dX9_does_4 (by decide) ?_
    refine J_iload_n dX9_does_5 rfl rfl ?_
    refine K_imul (v := nI (3 * k)) dX9_does_6 (nI_mul _ _) ?_
    refine J_iconst (v := nI 1) dX9_does_7 (by decide) ?_
    refine K_iadd (v := nI (3 * k + 1)) dX9_does_8 (nI_add _ _) ?_
    refine K_iald (v := nI (ns.getD 0 0)) dX9_does_9 m7 (by omega) (by decide) hC2 ?_
    refine J_istore_n dX9_does_10 rfl (by decide) rfl ?_
    refine J_aload_n dX9_does_11 rfl rfl ?_
    refine J_getfield dX9_does_12 fX9_28 mO rfl ?_
    refine J_iconst (v := nI 3) dX9_does_15 (by decide) ?_
    refine J_iload_n dX9_does_16 rfl rfl ?_
    refine K_imul (v := nI (3 * k)) dX9_does_17 (nI_mul _ _) ?_
    refine J_iconst (v := nI 2) dX9_does_18 (by decide) ?_
    refine K_iadd (v := nI (3 * k + 2)) dX9_does_19 (nI_add _ _) ?_
    refine K_iald (v := nI (ns.getD 1 0)) dX9_does_20 m7 (by omega) (by decide) (hC3 (by simp)) ?_
    refine J_istore_n dX9_does_21 rfl (by decide) rfl ?_
    refine J_aload_n dX9_does_22 rfl rfl ?_
    refine J_getfield dX9_does_23 fX9_28 mO rfl ?_
    refine J_iconst (v := nI 3) dX9_does_26 (by decide) ?_
    refine J_iload_n dX9_does_27 rfl rfl ?_
    refine K_imul (v := nI (3 * k)) dX9_does_28 (nI_mul _ _) ?_
    refine K_iald (v := nI 108) dX9_does_29 m7 (by omega) (by decide) hC1 ?_
    refine J_tableIn (tgt := 140) (off := 110) dX9_does_30 (by decide) (by decide) (by decide) (by decide) ?_
    refine J_aload_n dX9_does_140 rfl rfl ?_
    refine J_iload_n dX9_does_141 rfl rfl ?_
    refine J_iload_n dX9_does_142 rfl rfl ?_
    refine K_callVp dX9_does_143 YX9_joins kX9_136 (rc_of mO rfl) (c_X9_joins hA (nI (ns.getD 0 0)) (nI (ns.getD 1 0))) rfl rfl (Nat.le_of_ble_eq_true rfl) (by decide) (fun v143 w143 q143 => ?_)
    obtain ⟨rfl, hF, x1, hA1, hx1, hv1⟩ := q143
    exact J_ireturn dX9_does_146 rfl rfl (RP_i ⟨cod [1, 2, 3] (oJoin S (nI (ns.getD 0 0)) (nI (ns.getD 1 0))).1, rfl, cod_lt _ (by decide), cod_0, hF, x1, hA1, hx1⟩)
  · skip
    refine J_aload_n dX9_does_0 rfl rfl ?_
    refine J_getfield dX9_does_1 fX9_28 mO rfl ?_
    refine J_iconst (v := nI 3) dX9_does_4 (by decide) ?_
    refine J_iload_n dX9_does_5 rfl rfl ?_
    refine K_imul (v := nI (3 * k)) dX9_does_6 (nI_mul _ _) ?_
    refine J_iconst (v := nI 1) dX9_does_7 (by decide) ?_
    refine K_iadd (v := nI (3 * k + 1)) dX9_does_8 (nI_add _ _) ?_
    refine K_iald (v := nI (ns.getD 0 0)) dX9_does_9 m7 (by omega) (by decide) hC2 ?_
    refine J_istore_n dX9_does_10 rfl (by decide) rfl ?_
    refine J_aload_n dX9_does_11 rfl rfl ?_
    refine J_getfield dX9_does_12 fX9_28 mO rfl ?_
    refine J_iconst (v := nI 3) dX9_does_15 (by decide) ?_
    refine J_iload_n dX9_does_16 rfl rfl ?_
    refine K_imul (v := nI (3 * k)) dX9_does_17 (nI_mul _ _) ?_
    refine J_iconst (v := nI 2) dX9_does_18 (by decide) ?_
    refine K_iadd (v := nI (3 * k + 2)) dX9_does_19 (nI_add _ _) ?_
    refine K_iald (v := nI (ns.getD 1 0)) dX9_does_20 m7 (by omega) (by decide) (hC3 (by simp)) ?_
    refine J_istore_n dX9_does_21 rfl (by decide) rfl ?_
    refine J_aload_n dX9_does_22 rfl rfl ?_
    refine J_getfield dX9_does_23 fX9_28 mO rfl ?_
    refine J_iconst (v := nI 3) dX9_does_26 (by decide) ?_
    refine J_iload_n dX9_does_27 rfl rfl ?_
    refine K_imul (v := nI (3 * k)) dX9_does_28 (nI_mul _ _) ?_
    refine K_iald (v := nI 116) dX9_does_29 m7 (by omega) (by decide) hC1 ?_
    refine J_tableIn (tgt := 153) (off := 123) dX9_does_30 (by decide) (by decide) (by decide) (by decide) ?_
    refine J_aload_n dX9_does_153 rfl rfl ?_
    refine J_iload_n dX9_does_154 rfl rfl ?_
    refine J_iload_n dX9_does_155 rfl rfl ?_
    refine K_callVp dX9_does_156 YX9_starts kX9_160 (rc_of mO rfl) (c_X9_starts hA (nI (ns.getD 0 0)) (nI (ns.getD 1 0))) rfl rfl (Nat.le_of_ble_eq_true rfl) (by decide) (fun v156 w156 q156 => ?_)
    obtain ⟨rfl, hF, x1, hA1, hx1, hv1⟩ := q156
    exact J_ireturn dX9_does_159 rfl rfl (RP_i ⟨cod [1, 2, 3, 4] (oTrain S (nI (ns.getD 0 0)) (nI (ns.getD 1 0))).1, rfl, cod_lt _ (by decide), cod_0, hF, x1, hA1, hx1⟩)
  · skip
    refine J_aload_n dX9_does_0 rfl rfl ?_
    refine J_getfield dX9_does_1 fX9_28 mO rfl ?_
    refine J_iconst (v := nI 3) dX9_does_4 (by decide) ?_
    refine J_iload_n dX9_does_5 rfl rfl ?_
    refine K_imul (v := nI (3 * k)) dX9_does_6 (nI_mul _ _) ?_
    refine J_iconst (v := nI 1) dX9_does_7 (by decide) ?_
    refine K_iadd (v := nI (3 * k + 1)) dX9_does_8 (nI_add _ _) ?_
    refine K_iald (v := nI (ns.getD 0 0)) dX9_does_9 m7 (by omega) (by decide) hC2 ?_
    refine J_istore_n dX9_does_10 rfl (by decide) rfl ?_
    refine J_aload_n dX9_does_11 rfl rfl ?_
    refine J_getfield dX9_does_12 fX9_28 mO rfl ?_
    refine J_iconst (v := nI 3) dX9_does_15 (by decide) ?_
    refine J_iload_n dX9_does_16 rfl rfl ?_
    refine K_imul (v := nI (3 * k)) dX9_does_17 (nI_mul _ _) ?_
    refine J_iconst (v := nI 2) dX9_does_18 (by decide) ?_
    refine K_iadd (v := nI (3 * k + 2)) dX9_does_19 (nI_add _ _) ?_
    refine K_iald (v := nI (ns.getD 1 0)) dX9_does_20 m7 (by omega) (by decide) (hC3 (by simp)) ?_
    refine J_istore_n dX9_does_21 rfl (by decide) rfl ?_
    refine J_aload_n dX9_does_22 rfl rfl ?_
    refine J_getfield dX9_does_23 fX9_28 mO rfl ?_
    refine J_iconst (v := nI 3) dX9_does_26 (by decide) ?_
    refine J_iload_n dX9_does_27 rfl rfl ?_
    refine K_imul (v := nI (3 * k)) dX9_does_28 (nI_mul _ _) ?_
    refine K_iald (v := nI 103) dX9_does_29 m7 (by omega) (by decide) hC1 ?_
    refine J_tableIn (tgt := 160) (off := 130) dX9_does_30 (by decide) (by decide) (by decide) (by decide) ?_
    refine J_aload_n dX9_does_160 rfl rfl ?_
    refine J_iload_n dX9_does_161 rfl rfl ?_
    refine J_iload_n dX9_does_162 rfl rfl ?_
    refine K_callVp dX9_does_163 YX9_aims kX9_163 (rc_of mO rfl) (c_X9_aims hA (nI (ns.getD 0 0)) (nI (ns.getD 1 0))) rfl rfl (Nat.le_of_ble_eq_true rfl) (by decide) (fun v163 w163 q163 => ?_)
    obtain ⟨rfl, hF, x1, hA1, hx1, hv1⟩ := q163
    exact J_ireturn dX9_does_166 rfl rfl (RP_i ⟨cod [1, 2, 4, 5] (oAim S (nI (ns.getD 0 0)) (nI (ns.getD 1 0))).1, rfl, cod_lt _ (by decide), cod_0, hF, x1, hA1, hx1⟩)
  · skip
    refine J_aload_n dX9_does_0 rfl rfl ?_
    refine J_getfield dX9_does_1 fX9_28 mO rfl ?_
    refine J_iconst (v := nI 3) dX9_does_4 (by decide) ?_
    refine J_iload_n dX9_does_5 rfl rfl ?_
    refine K_imul (v := nI (3 * k)) dX9_does_6 (nI_mul _ _) ?_
    refine J_iconst (v := nI 1) dX9_does_7 (by decide) ?_
    refine K_iadd (v := nI (3 * k + 1)) dX9_does_8 (nI_add _ _) ?_
    refine K_iald (v := nI (ns.getD 0 0)) dX9_does_9 m7 (by omega) (by decide) hC2 ?_
    refine J_istore_n dX9_does_10 rfl (by decide) rfl ?_
    refine J_aload_n dX9_does_11 rfl rfl ?_
    refine J_getfield dX9_does_12 fX9_28 mO rfl ?_
    refine J_iconst (v := nI 3) dX9_does_15 (by decide) ?_
    refine J_iload_n dX9_does_16 rfl rfl ?_
    refine K_imul (v := nI (3 * k)) dX9_does_17 (nI_mul _ _) ?_
    refine J_iconst (v := nI 2) dX9_does_18 (by decide) ?_
    refine K_iadd (v := nI (3 * k + 2)) dX9_does_19 (nI_add _ _) ?_
    refine K_iald (v := f7 (3 * k + 2)) dX9_does_20 m7 (by omega) (by decide) rfl ?_
    refine J_istore_n dX9_does_21 rfl (by decide) rfl ?_
    refine J_aload_n dX9_does_22 rfl rfl ?_
    refine J_getfield dX9_does_23 fX9_28 mO rfl ?_
    refine J_iconst (v := nI 3) dX9_does_26 (by decide) ?_
    refine J_iload_n dX9_does_27 rfl rfl ?_
    refine K_imul (v := nI (3 * k)) dX9_does_28 (nI_mul _ _) ?_
    refine K_iald (v := nI 107) dX9_does_29 m7 (by omega) (by decide) hC1 ?_
    refine J_tableIn (tgt := 134) (off := 104) dX9_does_30 (by decide) (by decide) (by decide) (by decide) ?_
    refine J_aload_n dX9_does_134 rfl rfl ?_
    refine J_iload_n dX9_does_135 rfl rfl ?_
    refine K_callVp dX9_does_136 YX9_seats kX9_142 (rc_of mO rfl) (c_X9_seats hA (nI (ns.getD 0 0))) rfl rfl (Nat.le_of_ble_eq_true rfl) (by decide) (fun v136 w136 q136 => ?_)
    obtain ⟨rfl, hF, x1, hA1, hx1, hv1⟩ := q136
    exact J_ireturn dX9_does_139 rfl rfl (RP_i ⟨cod [1, 3, 4] (oCat S (nI (ns.getD 0 0))).1, rfl, cod_lt _ (by decide), cod_0, hF, x1, hA1, hx1⟩)
  · skip
    refine J_aload_n dX9_does_0 rfl rfl ?_
    refine J_getfield dX9_does_1 fX9_28 mO rfl ?_
    refine J_iconst (v := nI 3) dX9_does_4 (by decide) ?_
    refine J_iload_n dX9_does_5 rfl rfl ?_
    refine K_imul (v := nI (3 * k)) dX9_does_6 (nI_mul _ _) ?_
    refine J_iconst (v := nI 1) dX9_does_7 (by decide) ?_
    refine K_iadd (v := nI (3 * k + 1)) dX9_does_8 (nI_add _ _) ?_
    refine K_iald (v := nI (ns.getD 0 0)) dX9_does_9 m7 (by omega) (by decide) hC2 ?_
    refine J_istore_n dX9_does_10 rfl (by decide) rfl ?_
    refine J_aload_n dX9_does_11 rfl rfl ?_
    refine J_getfield dX9_does_12 fX9_28 mO rfl ?_
    refine J_iconst (v := nI 3) dX9_does_15 (by decide) ?_
    refine J_iload_n dX9_does_16 rfl rfl ?_
    refine K_imul (v := nI (3 * k)) dX9_does_17 (nI_mul _ _) ?_
    refine J_iconst (v := nI 2) dX9_does_18 (by decide) ?_
    refine K_iadd (v := nI (3 * k + 2)) dX9_does_19 (nI_add _ _) ?_
    refine K_iald (v := nI (ns.getD 1 0)) dX9_does_20 m7 (by omega) (by decide) (hC3 (by simp)) ?_
    refine J_istore_n dX9_does_21 rfl (by decide) rfl ?_
    refine J_aload_n dX9_does_22 rfl rfl ?_
    refine J_getfield dX9_does_23 fX9_28 mO rfl ?_
    refine J_iconst (v := nI 3) dX9_does_26 (by decide) ?_
    refine J_iload_n dX9_does_27 rfl rfl ?_
    refine K_imul (v := nI (3 * k)) dX9_does_28 (nI_mul _ _) ?_
    refine K_iald (v := nI 104) dX9_does_29 m7 (by omega) (by decide) hC1 ?_
    refine J_tableIn (tgt := 167) (off := 137) dX9_does_30 (by decide) (by decide) (by decide) (by decide) ?_
    refine J_aload_n dX9_does_167 rfl rfl ?_
    refine J_iload_n dX9_does_168 rfl rfl ?_
    refine J_iload_n dX9_does_169 rfl rfl ?_
    refine K_callVp dX9_does_170 YX9_holds kX9_169 (rc_of mO rfl) (c_X9_holds hA (nI (ns.getD 0 0)) (nI (ns.getD 1 0))) rfl rfl (Nat.le_of_ble_eq_true rfl) (by decide) (fun v170 w170 q170 => ?_)
    obtain ⟨rfl, hF, x1, hA1, hx1, hv1⟩ := q170
    exact J_ireturn dX9_does_173 rfl rfl (RP_i ⟨cod [1, 2, 3, 4] (oHold S (nI (ns.getD 0 0)) (nI (ns.getD 1 0))).1, rfl, cod_lt _ (by decide), cod_0, hF, x1, hA1, hx1⟩)
  · skip
    refine J_aload_n dX9_does_0 rfl rfl ?_
    refine J_getfield dX9_does_1 fX9_28 mO rfl ?_
    refine J_iconst (v := nI 3) dX9_does_4 (by decide) ?_
    refine J_iload_n dX9_does_5 rfl rfl ?_
    refine K_imul (v := nI (3 * k)) dX9_does_6 (nI_mul _ _) ?_
    refine J_iconst (v := nI 1) dX9_does_7 (by decide) ?_
    refine K_iadd (v := nI (3 * k + 1)) dX9_does_8 (nI_add _ _) ?_
    refine K_iald (v := nI (ns.getD 0 0)) dX9_does_9 m7 (by omega) (by decide) hC2 ?_
    refine J_istore_n dX9_does_10 rfl (by decide) rfl ?_
    refine J_aload_n dX9_does_11 rfl rfl ?_
    refine J_getfield dX9_does_12 fX9_28 mO rfl ?_
    refine J_iconst (v := nI 3) dX9_does_15 (by decide) ?_
    refine J_iload_n dX9_does_16 rfl rfl ?_
    refine K_imul (v := nI (3 * k)) dX9_does_17 (nI_mul _ _) ?_
    refine J_iconst (v := nI 2) dX9_does_18 (by decide) ?_
    refine K_iadd (v := nI (3 * k + 2)) dX9_does_19 (nI_add _ _) ?_
    refine K_iald (v := f7 (3 * k + 2)) dX9_does_20 m7 (by omega) (by decide) rfl ?_
    refine J_istore_n dX9_does_21 rfl (by decide) rfl ?_
    refine J_aload_n dX9_does_22 rfl rfl ?_
    refine J_getfield dX9_does_23 fX9_28 mO rfl ?_
    refine J_iconst (v := nI 3) dX9_does_26 (by decide) ?_
    refine J_iload_n dX9_does_27 rfl rfl ?_
    refine K_imul (v := nI (3 * k)) dX9_does_28 (nI_mul _ _) ?_
    refine K_iald (v := nI 114) dX9_does_29 m7 (by omega) (by decide) hC1 ?_
    refine J_tableIn (tgt := 174) (off := 144) dX9_does_30 (by decide) (by decide) (by decide) (by decide) ?_
    refine J_aload_n dX9_does_174 rfl rfl ?_
    refine J_iload_n dX9_does_175 rfl rfl ?_
    refine K_callVp dX9_does_176 YX9_rescues kX9_175 (rc_of mO rfl) (c_X9_rescues hA (nI (ns.getD 0 0))) rfl rfl (Nat.le_of_ble_eq_true rfl) (by decide) (fun v176 w176 q176 => ?_)
    obtain ⟨rfl, hF, x1, hA1, hx1, hv1⟩ := q176
    exact J_ireturn dX9_does_179 rfl rfl (RP_i ⟨cod [1, 3] (oResc S (nI (ns.getD 0 0))).1, rfl, cod_lt _ (by decide), cod_0, hF, x1, hA1, hx1⟩)
  · skip
    refine J_aload_n dX9_does_0 rfl rfl ?_
    refine J_getfield dX9_does_1 fX9_28 mO rfl ?_
    refine J_iconst (v := nI 3) dX9_does_4 (by decide) ?_
    refine J_iload_n dX9_does_5 rfl rfl ?_
    refine K_imul (v := nI (3 * k)) dX9_does_6 (nI_mul _ _) ?_
    refine J_iconst (v := nI 1) dX9_does_7 (by decide) ?_
    refine K_iadd (v := nI (3 * k + 1)) dX9_does_8 (nI_add _ _) ?_
    refine K_iald (v := nI (ns.getD 0 0)) dX9_does_9 m7 (by omega) (by decide) hC2 ?_
    refine J_istore_n dX9_does_10 rfl (by decide) rfl ?_
    refine J_aload_n dX9_does_11 rfl rfl ?_
    refine J_getfield dX9_does_12 fX9_28 mO rfl ?_
    refine J_iconst (v := nI 3) dX9_does_15 (by decide) ?_
    refine J_iload_n dX9_does_16 rfl rfl ?_
    refine K_imul (v := nI (3 * k)) dX9_does_17 (nI_mul _ _) ?_
    refine J_iconst (v := nI 2) dX9_does_18 (by decide) ?_
    refine K_iadd (v := nI (3 * k + 2)) dX9_does_19 (nI_add _ _) ?_
    refine K_iald (v := f7 (3 * k + 2)) dX9_does_20 m7 (by omega) (by decide) rfl ?_
    refine J_istore_n dX9_does_21 rfl (by decide) rfl ?_
    refine J_aload_n dX9_does_22 rfl rfl ?_
    refine J_getfield dX9_does_23 fX9_28 mO rfl ?_
    refine J_iconst (v := nI 3) dX9_does_26 (by decide) ?_
    refine J_iload_n dX9_does_27 rfl rfl ?_
    refine K_imul (v := nI (3 * k)) dX9_does_28 (nI_mul _ _) ?_
    refine K_iald (v := nI 105) dX9_does_29 m7 (by omega) (by decide) hC1 ?_
    refine J_tableIn (tgt := 147) (off := 117) dX9_does_30 (by decide) (by decide) (by decide) (by decide) ?_
    refine J_aload_n dX9_does_147 rfl rfl ?_
    refine J_iload_n dX9_does_148 rfl rfl ?_
    refine K_callVp dX9_does_149 YX9_passes kX9_187 (rc_of mO rfl) (c_X9_passes hA (nI (ns.getD 0 0))) rfl rfl (Nat.le_of_ble_eq_true rfl) (by decide) (fun v149 w149 q149 => ?_)
    obtain ⟨rfl, hF, x1, hA1, hx1, hv1⟩ := q149
    exact J_ireturn dX9_does_152 rfl rfl (RP_i ⟨cod [2] (oTick S (nI (ns.getD 0 0))).1, rfl, cod_lt _ (by decide), cod_0, hF, x1, hA1, hx1⟩)

end JMEXEC

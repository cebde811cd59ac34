/-! THE LAW: its loop -/
section JLOOP
set_option maxRecDepth 100000 in
theorem lw_main {Q : Po} {w : Wd} (hQ : ∀ w : Wd, Q (.inl (some (.int 1))) w) (hn : w.2.1 = 0) (hf : w.2.2 = true) : J 60 mL_law 0 [some (.ref 3), none, none, none, none, none, none, none, none, none, none, none, none, none, none, none, none, none, none] [] w (596280 + 400 + 1 + 125 + 1) (3937680 + 2400 + 80 + 1148 + 11) Q := by
  refine K_new (N := 11) (kb := 596280 + 400 + 1 + 125) (sb := 3937680 + 2400 + 80 + 1148) dL_law_0 nL_15 hf (fun w1 u1 => ?_)
  obtain ⟨a1, b1, c1, d1⟩ := u1
  rw [hn] at a1 b1 c1
  rw [hn]
  refine J_dup dL_law_3 rfl ?_
  refine K_tI (As := []) (kb := 596280 + 400 + 1) (sb := 3937680 + 2400 + 80) dL_law_4 YX8_init rfl rfl kL_188 (c_X8_init a1 c1 rfl d1) rfl rfl (Nat.le_of_ble_eq_true rfl) (by decide) (fun v w2 h => ?_)
  obtain ⟨rfl, ⟨f1, f2, f3⟩, g0, g1, g2, g3, g4, g5, g6, g7, g8⟩ := h
  have hX : RepX w2 100 G0 := ⟨g0, g1, g2, ⟨_, g3⟩, ⟨_, g4⟩, g5, g6, ⟨_, _, _, _, _, g7⟩, g8, ⟨fun j hj => absurd hj (Nat.not_lt_zero j), fun k hk => (by cases hk), fun k hk => (by cases hk)⟩⟩
  refine J_astore_n dL_law_7 rfl (by decide) rfl ?_
  refine J_bipush (v := nI 80) dL_law_8 (by decide) ?_
  refine F_newa_long (N := 80) (kb := 596280 + 400) (sb := 3937680 + 2400) dL_law_10 w6_160 (by decide) (by decide) (by decide) (fun a w3 q3 => ?_)
  have la := q3.2.2.2.2 _ hX.lv.2
  have hX : RepX w3 100 G0 := hX.kp (fun b h1 h2 => q3.2.2.1 b (by omega))
  refine J_astore_n dL_law_12 rfl (by decide) rfl ?_
  refine J_iconst (v := nI 0) dL_law_13 (by decide) ?_
  refine J_istore_n dL_law_14 rfl (by decide) rfl ?_
  refine J_aload_n dL_law_15 rfl rfl ?_
  refine J_iload_n dL_law_16 rfl rfl ?_
  refine J_aload_n dL_law_17 rfl rfl ?_
  refine K_sc (kb := 596280) (sb := 3937680) dL_law_18 YL_sum kL_189 (c_L_sum hX) rfl rfl (Nat.le_of_ble_eq_true rfl) (by decide) (fun r4 w4 q4 => ?_)
  obtain ⟨rfl, k4, hX⟩ := q4
  have hA := k4.at q3.1 (Or.inr (by omega)) nd_l
  refine K_lput dL_law_21 hA (by decide) (by decide) (fun w5 u5 => ?_)
  have hX := hX.up u5 (Or.inr (by omega))
  refine J_iconst (v := nI 0) dL_law_22 (by decide) ?_
  refine J_istore dL_law_23 (by decide) rfl ?_
  refine J_iconst (v := nI 0) dL_law_25 (by decide) ?_
  refine J_istore dL_law_26 (by decide) rfl ?_
  exact lw_loop (x := 100) (a := a) hQ (Or.inr (by omega)) 60 0 w5 G0 0 _ (by decide) ⟨hX, wg_S0, u5.1, ⟨rfl, up_s _ _ _, fun j hj => absurd hj (Nat.not_lt_zero j)⟩, Nat.le_refl _⟩
end JLOOP

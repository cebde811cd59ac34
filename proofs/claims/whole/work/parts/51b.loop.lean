/-! THE LAW: its loop -/
section JLOOP
theorem lw_loop {sN : Nat} {sF : Nat → Int32} {x m o q : Nat} {Q : Po} (hN : sN ≤ 1536) (hQ : ∀ w : Wd, Q (.inl (some (.int 1))) w) : ∀ (n i : Nat) (w : Wd) (G : Gme) (th : Nat) (l6 l7 l8 : Option Value), sN < i + 3 * (n + 1) → i ≤ sN + 3 → LI w x m o q G G th → JL sN sF 40 mL_law 28 [some (.ref 3), some (.ref x), some (.ref m), some (.ref o), some (.ref q), some (.int (nI i)), l6, l7, l8] [] w n (6 * n) Q := by
  have hN31 : sN < 2 ^ 31 := by omega
  have fin : ∀ (i : Nat) (w : Wd) (l6 l7 l8 : Option Value) (kb sb : Nat), JL sN sF 40 mL_law 2995 [some (.ref 3), some (.ref x), some (.ref m), some (.ref o), some (.ref q), some (.int (nI i)), l6, l7, l8] [] w kb sb Q := by
    intro i w l6 l7 l8 kb sb
    refine JL_iconst (v := 1) dL_law_2995 (by decide) ?_
    exact JL_ireturn dL_law_2996 rfl rfl (hQ w)
  intro n
  induction n with
  | zero =>
    intro i w G th l6 l7 l8 h1 h2 hI
    refine JL_iload dL_law_28 rfl ?_
    refine JL_aload_n dL_law_30 rfl rfl ?_
    refine JL_scl (v := nI sN) dL_law_31 rfl ?_
    refine JL_iconst (v := nI 3) dL_law_32 (by decide) ?_
    refine JL_isub dL_law_33 ?_
    exact JL_icmp_gt (tgt := 2995) dL_law_34 (by decide) (fun _ => fin _ _ _ _ _ _ _) (fun h => absurd ((sub3 hN31 (by omega)).mpr (by omega)) h)
  | succ n ih =>
    intro i w G th l6 l7 l8 h1 h2 hI
    refine JL_iload dL_law_28 rfl ?_
    refine JL_aload_n dL_law_30 rfl rfl ?_
    refine JL_scl (v := nI sN) dL_law_31 rfl ?_
    refine JL_iconst (v := nI 3) dL_law_32 (by decide) ?_
    refine JL_isub dL_law_33 ?_
    refine JL_icmp_gt (tgt := 2995) dL_law_34 (by decide) (fun _ => fin _ _ _ _ _ _ _) (fun h => ?_)
    have h3 : i + 3 ≤ sN := by
      have := mt (sub3 hN31 (by omega)).mpr h
      omega
    refine JL_aload_n dL_law_37 rfl rfl ?_
    refine JL_iload dL_law_38 rfl ?_
    refine JL_scg dL_law_40 (vp_in_nI (by omega) hN31) ?_
    refine JL_bipush (v := nI 63) dL_law_41 (by decide) ?_
    refine JL_iand dL_law_43 ?_
    obtain ⟨j, hj, hje⟩ := and63 (sF (nI i).toNatClampNeg)
    rw [hje]
    refine lw_disp (kb := n) (sb := 6 * n) hN31 (by omega) hI (fun w' G' th' l6 l7 l8 hI' => ?_) hj
    refine JL_iinc (v := nI (i + 3)) dL_law_2989 rfl (nI_addx i 3) (by decide) rfl ?_
    refine JL_goto (tgt := 28) dL_law_2992 (by decide) ?_
    exact ih (i + 3) w' G' th' l6 l7 l8 (by omega) (by omega) hI'
set_option maxRecDepth 32768 in
theorem lw_main {sN : Nat} {sF : Nat → Int32} {Q : Po} {w : Wd} (hN : sN ≤ 1536) (hQ : ∀ w : Wd, Q (.inl (some (.int 1))) w) (hn : w.2.1 = 0) (hf : w.2.2 = true) : JL sN sF 40 mL_law 0 [some (.ref 3), none, none, none, none, none, none, none, none] [] w (512 + 1 + 1 + 10 + 1 + 125 + 1) (6 * 512 + 1 + 1 + 1700 + 22 + 1148 + 11) Q := by
  refine KL_new dL_law_0 nL_8 hf (fun w1 u1 => ?_)
  obtain ⟨a1, b1, c1, d1⟩ := u1
  rw [hn] at a1 b1 c1
  rw [hn]
  refine JL_dup dL_law_3 rfl ?_
  refine JL_callI (mi := mL_law) (pc := 4) (As := []) (kb := 512 + 1 + 1 + 10 + 1) (sb := 6 * 512 + 1 + 1 + 1700 + 22) (kb' := 125) (sb' := 1148) dL_law_4 YX8_init rfl rfl kL_162 (c_X8_init a1 c1 rfl d1) (fun E w h => RP_no E w h) rfl rfl (Nat.le_of_ble_eq_true rfl) (by decide) (fun v w2 h => ?_)
  obtain ⟨v', e, rfl, ⟨f1, f2, f3⟩, g0, g1, g2, g3, g4, g5, g6, g7, g8⟩ := h
  cases e
  have hX : RepX w2 100 G0 := ⟨g0, g1, g2, ⟨_, g3⟩, ⟨_, g4⟩, g5, g6, ⟨_, _, _, _, _, g7⟩, g8, ⟨fun j hj => absurd hj (Nat.not_lt_zero j), fun k hk => (by cases hk), fun k hk => (by cases hk)⟩⟩
  have n2 : w2.2.1 = 126 := by omega
  refine JL_astore_n dL_law_7 rfl (by decide) rfl ?_
  refine KL_new dL_law_8 nL_163 f3 (fun w3 u3 => ?_)
  obtain ⟨a3, b3, c3, d3⟩ := u3
  rw [n2] at a3 b3 c3
  rw [n2]
  refine JL_dup dL_law_11 rfl ?_
  refine JL_callI (mi := mL_law) (pc := 12) (As := []) (kb := 512 + 1 + 1) (sb := 6 * 512 + 1 + 1) (kb' := 10) (sb' := 1700) dL_law_12 YX9_init rfl rfl kL_165 (c_X9_init a3 c3 rfl d3) (fun E w h => RP_no E w h) rfl rfl (Nat.le_of_ble_eq_true rfl) (by decide) (fun v w4 h => ?_)
  obtain ⟨v', e, rfl, ⟨f41, f42, f43⟩, hM⟩ := h
  cases e
  have n4 : w4.2.1 = 137 := by omega
  have hX4 : RepX w4 100 G0 := hX.kp (fun b h1 h2 => (f41 b (by omega)).trans (b3 b (by omega)))
  refine JL_astore_n dL_law_15 rfl (by decide) rfl ?_
  refine JL_iconst (v := 1) dL_law_16 (by decide) ?_
  refine JL_newa_long (N := 1) dL_law_17 ac_long (by decide) (by decide) (by decide) f43 ?_
  obtain ⟨a5, b5, c5, d5⟩ := NwU_nw w4 (.inl (2, 1, .inr (.inl fun _ => 0)))
  generalize nwW w4 (.inl (2, 1, .inr (.inl fun _ => 0))) = w5 at a5 b5 c5 d5 ⊢
  rw [n4] at a5 b5 c5
  rw [n4]
  refine JL_astore_n dL_law_19 rfl (by decide) rfl ?_
  refine JL_iconst (v := 1) dL_law_20 (by decide) ?_
  refine JL_newa_double (N := 1) dL_law_21 ac_double (by decide) (by decide) (by decide) d5 ?_
  obtain ⟨a6, b6, c6, d6⟩ := NwU_nw w5 (.inl (3, 1, .inr (.inr (.inr (.inl fun _ => 0)))))
  generalize nwW w5 (.inl (3, 1, .inr (.inr (.inr (.inl fun _ => 0))))) = w6 at a6 b6 c6 d6 ⊢
  rw [c5] at a6 b6
  rw [c5]
  refine JL_astore dL_law_23 (by decide) rfl ?_
  refine JL_iconst (v := nI 0) dL_law_25 (by decide) ?_
  refine JL_istore dL_law_26 (by decide) rfl ?_
  exact lw_loop (x := 100) (m := 226) (o := 237) (q := 238) hN hQ 512 0 w6 G0 0 none none none (by omega) (by omega) ⟨hX4.kp (fun b h1 h2 => (b6 b (by omega)).trans (b5 b (by omega))), hM.kp (fun b h1 h2 => (b6 b (by omega)).trans (b5 b (by omega))), ⟨_, (b6 237 (by omega)).trans a5⟩, ⟨_, a6⟩, by decide⟩
end JLOOP

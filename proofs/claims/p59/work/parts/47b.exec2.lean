/-! THE CLASS: commands done -/
section JEXEC2
def EXF (w w1 : Wd) (x : Nat) : Prop := (∀ b : Nat, (b < x + 1 ∨ x + 10 ≤ b) → (b < x + 28 ∨ x + 111 ≤ b) → (b < x + 115 ∨ x + 124 ≤ b) → w1.1 b = w.1 b) ∧ w1.2.1 = w.2.1
theorem EXF.fr {w w1 w2 : Wd} {x lo hi : Nat} (e : EXF w w1 x) (f : Fr w1 w2 lo hi) (h : (x + 1 ≤ lo ∧ hi ≤ x + 10) ∨ (x + 28 ≤ lo ∧ hi ≤ x + 111) ∨ (x + 115 ≤ lo ∧ hi ≤ x + 124)) : EXF w w2 x := ⟨fun b a1 a2 a3 => (f.1 b (by omega)).trans (e.1 b a1 a2 a3), f.2.trans e.2⟩
theorem EXF.f2 {w w1 w2 : Wd} {x : Nat} (e : EXF w w1 x) (f : F2 w1 w2 (x + 1) (x + 115)) : EXF w w2 x := ⟨fun b a1 a2 a3 => (f.1 b (by omega) (by omega)).trans (e.1 b a1 a2 a3), f.2.trans e.2⟩
theorem EXF.rf (w : Wd) (x : Nat) : EXF w w x := ⟨fun _ _ _ _ => rfl, rfl⟩
theorem EXF.all {w w1 : Wd} {x : Nat} (e : EXF w w1 x) : Fr w w1 x (x + 126) := ⟨fun b hb => e.1 b (by omega) (by omega) (by omega), e.2⟩
theorem RepX.ex {w w' : Wd} {x : Nat} {G G' : Gme} {K : St} {p : Nat} {e : Bool} {m : Nat} {x1 x2 : Int32} (hX : RepX w x G) (f : ∀ b : Nat, b ≠ x → (b < x + 1 ∨ x + 10 ≤ b) → (b < x + 28 ∨ x + 111 ≤ b) → (b < x + 115 ∨ x + 124 ≤ b) → w'.1 b = w.1 b) (h0' : w'.1 x = xCell x G') (hC : RepC w' (x + 1) (gS G')) (hH : RepH w' (x + 28) (gP G') (gC G') K) (hT : RepT w' (x + 115)) (hD : RepD w' (x + 122) (gT G') (gN G') p e m x1 x2) (e1 : gV G' = gV G) (e2 : gO G' = gO G) (hE : ∀ k, gE G' = some k → k < 1000) (hF : ∀ k, gF G' = some k → k < 1000) : RepX w' x G' := by
  obtain ⟨h0, h1', h2', ⟨S9, h3⟩, ⟨K9, h4⟩, h5, h6, -, h8, h9⟩ := hX
  refine ⟨h0', hC, ?_, ⟨S9, h3.kept (fun j hj => f _ (by omega) (by omega) (by omega) (by omega))⟩, ⟨K, hH⟩, h5.kp (fun j hj => f _ (by omega) (by omega) (by omega) (by omega)), hT, ⟨_, _, _, _, _, hD⟩, ?_, ?_, hE, hF⟩
  · rw [e1]; exact h2'.kept (fun j hj => f _ (by omega) (by omega) (by omega) (by omega))
  · rw [e2]; exact h8.kp (fun j hj => f _ (by omega) (by omega) (by omega) (by omega))
  · rw [e2]; exact h9.1
theorem c_X8_execute {w : Wd} {x : Nat} {G : Gme} (hX : RepX w x G) : MC 14 mX8_execute 1 6 [.ref x] w (GXo w x (gExec G)) := by
  obtain ⟨hX0, hL, hV, ⟨S9, hW9⟩, ⟨K, hH⟩, hRt, hTr, ⟨p9, e9, m9, y1, y2, hD⟩, hOu, hB⟩ := id hX
  have hwf := hL.wf
  have hnb := hwf.nb
  have hnt := hwf.nt
  refine MC_j pnX8 rfl rfl rfl (Or.inl (by decide)) ?_
  show J 14 mX8_execute 0 [some (.ref x), none, none, none] [] w 1 6 _
  have fail : ∀ k Sk p e cm y1 y2 S9 w1, (pAll (gT G) (gN G) 61 0).2 = none → runC (pAll (gT G) (gN G) 61 0).1 0 (gS G) = (some k, S9) → k < 60 → w1.1 x = xCell x G → RepC w1 (x + 1) Sk → RepT w1 (x + 115) → RepD w1 (x + 122) (gT G) (gN G) p e cm y1 y2 → RepH w1 (x + 28) (gP G) (gC G) (gS G) → EXF w w1 x → J 14 mX8_execute 58 [some (.ref x), some (.int (-1)), some (.int 1), some (.int (nI k))] [] w1 1 6 (GXo w x (gExec G)) := by
    intro k Sk p e cm y1 y2 S9 w1 hpe hbad hk60 hX0 hL1 hT1 hD1 hH1 hE1
    refine J_iload_n dX8_execute_58 rfl rfl ?_
    refine J_if_ne (tgt := 122) dX8_execute_59 (by decide) (fun h59 => ?_) (fun h59 => absurd h59 (by decide))
    refine J_aload_n dX8_execute_122 rfl rfl ?_
    refine J_getfield dX8_execute_123 fX8_46 hX0 rfl ?_
    refine K_callVp dX8_execute_126 YX2_clear kX8_293 (RepD.rc hD1) (c_X2_clear hD1) rfl rfl (Nat.le_of_ble_eq_true rfl) (by decide) (fun v126 w126 q126 => ?_)
    obtain ⟨rfl, hF126, hD126⟩ := q126
    have hX0 := (hF126.1 _ (by omega)).trans hX0
    have hL126 := hL1.kept (fun j hj => hF126.1 _ (by omega))
    have hH126 := hH1.kp (fun j hj => hF126.1 _ (by omega))
    have hT126 := hT1.kp (fun j hj => hF126.1 _ (by omega))
    have hE126 := hE1.fr hF126 (by omega)
    refine J_iload_n dX8_execute_129 rfl rfl ?_
    refine J_if_eq (tgt := 160) dX8_execute_130 (by decide) (fun h130 => absurd h130 (by decide)) (fun h130 => ?_)
    refine J_aload_n dX8_execute_133 rfl rfl ?_
    refine J_getfield dX8_execute_134 fX8_25 hX0 rfl ?_
    refine J_aload_n dX8_execute_137 rfl rfl ?_
    refine J_getfield dX8_execute_138 fX8_12 hX0 rfl ?_
    refine K_callVp dX8_execute_141 YX3_revert kX8_320 (RepH.rc hH126) (c_X3_revert hH126 hL126 (by omega)) rfl rfl (Nat.le_of_ble_eq_true rfl) (by decide) (fun v141 w141 q141 => ?_)
    obtain ⟨rfl, hF141, hC141⟩ := q141
    have hX0 := (hF141.1 _ (by omega)).trans hX0
    have hH141 := hH126.kp (fun j hj => hF141.1 _ (by omega))
    have hT141 := hT126.kp (fun j hj => hF141.1 _ (by omega))
    have hD141 := hD126.kp (fun j hj => hF141.1 _ (by omega))
    have hE141 := hE126.fr hF141 (by omega)
    refine J_aload_n dX8_execute_144 rfl rfl ?_
    refine J_iload_n dX8_execute_145 rfl rfl ?_
    refine K_putI dX8_execute_146 fX8_65 (Or.inl rfl) hX0 (Nat.le_of_ble_eq_true rfl) (fun w1 u1 => ?_)
    have hX0 := u1.1
    have hX0 : w1.1 x = .inr (8, [.ref (x + 1), .ref (x + 10), .ref (x + 19), .ref (x + 28), .ref (x + 111), .ref (x + 115), .ref (x + 122), .ref (x + 124), .int (b2i (gH G)), .int (oI (gE G)), .int (nI k)]) := hX0
    exact J_throw thX8_execute_149 (Nat.le_refl _) (Nat.le_refl _) (GXo_no (c := 3) (v := 0) (G' := (G.1, G.2.1, gO G, (gT G, 0), (gE G, some k))) (exec_bad hpe hbad) (hE141.all.up u1 (by omega) (by omega)) (hX.ex (fun b a0 a1 a2 a3 => (u1.2.1 b a0).trans (hE141.1 b a1 a2 a3)) hX0 (hC141.kept (fun j hj => u1.2.1 _ (by omega))) (hH141.kp (fun j hj => u1.2.1 _ (by omega))) (hT141.kp (fun j hj => u1.2.1 _ (by omega))) (hD141.kp (fun j hj => u1.2.1 _ (by omega))) rfl rfl hB.2.1 (fun z hz => by cases hz; omega)))
  have good : ∀ k Sk p e cm y1 y2 w1, (pAll (gT G) (gN G) 61 0).2 = none → runC (pAll (gT G) (gN G) 61 0).1 0 (gS G) = (none, Sk) → (pAll (gT G) (gN G) 61 0).1.length = k → k ≤ 60 → w1.1 x = xCell x G → RepC w1 (x + 1) Sk → RepT w1 (x + 115) → RepD w1 (x + 122) (gT G) (gN G) p e cm y1 y2 → RepH w1 (x + 28) (gP G) (gC G) (gS G) → EXF w w1 x → J 14 mX8_execute 122 [some (.ref x), some (.int (-1)), some (.int 0), some (.int (nI k))] [] w1 1 6 (GXo w x (gExec G)) := by
    intro k Sk p e cm y1 y2 w1 hpe hok hkl hk60 hX0 hL1 hT1 hD1 hH1 hE1
    refine J_aload_n dX8_execute_122 rfl rfl ?_
    refine J_getfield dX8_execute_123 fX8_46 hX0 rfl ?_
    refine K_callVp dX8_execute_126 YX2_clear kX8_293 (RepD.rc hD1) (c_X2_clear hD1) rfl rfl (Nat.le_of_ble_eq_true rfl) (by decide) (fun v126 w126 q126 => ?_)
    obtain ⟨rfl, hF126, hD126⟩ := q126
    have hX0 := (hF126.1 _ (by omega)).trans hX0
    have hL126 := hL1.kept (fun j hj => hF126.1 _ (by omega))
    have hH126 := hH1.kp (fun j hj => hF126.1 _ (by omega))
    have hT126 := hT1.kp (fun j hj => hF126.1 _ (by omega))
    have hE126 := hE1.fr hF126 (by omega)
    refine J_iload_n dX8_execute_129 rfl rfl ?_
    refine J_if_eq (tgt := 160) dX8_execute_130 (by decide) (fun h130 => ?_) (fun h130 => absurd rfl h130)
    refine J_aload_n dX8_execute_160 rfl rfl ?_
    refine J_iload_n dX8_execute_161 rfl rfl ?_
    refine K_callVp dX8_execute_162 YX8_changed kX8_76 (rc_of hX0 rfl) (c_X8_changed_ok hX0 hH126 (by omega)) rfl rfl (Nat.le_of_ble_eq_true rfl) (by decide) (fun v162 w162 q162 => ?_)
    obtain ⟨rfl, hF162, K', hK'⟩ := q162
    have hX0 := (hF162.1 _ (by omega)).trans hX0
    exact J_ireturn dX8_execute_165 rfl rfl (GXo_ok (v := nI (pAll (gT G) (gN G) 61 0).1.length) (G' := gPush (gN0 G) Sk) (exec_ok hpe hok) (by rw [hkl]) ((hE126.fr hF162 (by omega)).all) (hX.ex (fun b a0 a1 a2 a3 => (hE126.fr hF162 (by omega)).1 b a1 a2 a3) hX0 (hL126.kept (fun j hj => hF162.1 _ (by omega))) hK' (hT126.kp (fun j hj => hF162.1 _ (by omega))) (hD126.kp (fun j hj => hF162.1 _ (by omega))) rfl rfl hB.2.1 hB.2.2))
  have loop : (pAll (gT G) (gN G) 61 0).2 = none → ∀ m k p e Sk w1 cm y1 y2, 60 < m + k → k ≤ p → p ≤ gN G → (e = true ∧ runC (pAll (gT G) (gN G) 61 0).1 0 (gS G) = runC [] k Sk ∧ (pAll (gT G) (gN G) 61 0).1.length = k ∨ e = false ∧ (pAll (gT G) (gN G) (61 - k) p).2 = none ∧ runC (pAll (gT G) (gN G) 61 0).1 0 (gS G) = runC (pAll (gT G) (gN G) (61 - k) p).1 k Sk ∧ (pAll (gT G) (gN G) 61 0).1.length = k + (pAll (gT G) (gN G) (61 - k) p).1.length) → w1.1 x = xCell x G → RepC w1 (x + 1) Sk → RepT w1 (x + 115) → RepD w1 (x + 122) (gT G) (gN G) p e cm y1 y2 → RepH w1 (x + 28) (gP G) (gC G) (gS G) → EXF w w1 x → J 14 mX8_execute 58 [some (.ref x), some (.int (-1)), some (.int 0), some (.int (nI k))] [] w1 1 6 (GXo w x (gExec G)) := by
    intro hpe m
    induction m with
    | zero => intro k p e Sk w1 cm y1 y2 q1 q2 q3 _ _ _ _ hD1; obtain ⟨-, -, -, q4, -⟩ := hD1; omega
    | succ m ih =>
      intro k p e Sk w1 cm y1 y2 q1 hkp hp hI hX0 hL1 hT1 hD1 hH1 hE1
      have hn60 : gN G ≤ 60 := by obtain ⟨-, -, -, q4, -⟩ := id hD1; exact q4
      rcases hI with ⟨rfl, hrun, hkl⟩ | ⟨rfl, hno, hrun, hkl⟩
      · skip
        refine J_iload_n dX8_execute_58 rfl rfl ?_
        refine J_if_ne (tgt := 122) dX8_execute_59 (by decide) (fun h59 => absurd rfl h59) (fun h59 => ?_)
        refine J_iload_n dX8_execute_62 rfl rfl ?_
        refine J_bipush (v := nI 60) dX8_execute_63 (by decide) ?_
        refine J_icmp_ge (tgt := 122) dX8_execute_65 (by decide) (fun h65 => ?_) (fun h65 => ?_)
        · skip
          
          exact good k Sk _ _ _ _ _ _ hpe hrun hkl (by omega) hX0 hL1 hT1 hD1 hH1 hE1
        · skip
          refine J_aload_n dX8_execute_68 rfl rfl ?_
          refine J_getfield dX8_execute_69 fX8_46 hX0 rfl ?_
          refine K_callV dX8_execute_72 YX2_readCommand kX8_302 (RepD.rc hD1) (c_X2_readCommandE hD1) rfl rfl (Nat.le_of_ble_eq_true rfl) (by decide) ?_
          refine J_if_eq (tgt := 122) dX8_execute_75 (by decide) (fun h75 => ?_) (fun h75 => absurd rfl h75)
          exact good k Sk _ _ _ _ _ _ hpe hrun hkl (by omega) hX0 hL1 hT1 hD1 hH1 hE1
      · cases hr : rdC (gT G) (gN G) p with
        | inl q =>
          rw [show 61 - k = (60 - k) + 1 by omega, pAll_e _ hr] at hno
          cases hno
        | inr z =>
          obtain ⟨cq, p', e'⟩ := z
          obtain ⟨i1, i2, i3⟩ := rdC_in hp hr
          obtain ⟨h9, hlen⟩ := rdC_cnt hr
          have hk : k < 60 := by omega
          rw [show 61 - k = (60 - k) + 1 by omega] at hno hrun hkl
          refine J_iload_n dX8_execute_58 rfl rfl ?_
          refine J_if_ne (tgt := 122) dX8_execute_59 (by decide) (fun h59 => absurd rfl h59) (fun h59 => ?_)
          refine J_iload_n dX8_execute_62 rfl rfl ?_
          refine J_bipush (v := nI 60) dX8_execute_63 (by decide) ?_
          refine J_icmp_ge (tgt := 122) dX8_execute_65 (by decide) (fun h65 => absurd h65 (fun z => by have := (nI_leI (by omega) (by omega)).mp z; omega)) (fun h65 => ?_)
          refine J_aload_n dX8_execute_68 rfl rfl ?_
          refine J_getfield dX8_execute_69 fX8_46 hX0 rfl ?_
          refine K_callVp dX8_execute_72 YX2_readCommand kX8_302 (RepD.rc hD1) (c_X2_readCommand hD1 hp) rfl rfl (Nat.le_of_ble_eq_true rfl) (by decide) (fun v72 w72 q72 => ?_)
          obtain ⟨hF72, z1, z2, hq72⟩ := q72
          have hX0 := (hF72.1 _ (by omega)).trans hX0
          rw [hr] at hq72
          obtain ⟨rfl, hD72, hnu⟩ := hq72
          obtain ⟨fd, hdO, -⟩ := id hD72
          have hL72 := hL1.kept (fun j hj => hF72.1 _ (by omega))
          have hH72 := hH1.kp (fun j hj => hF72.1 _ (by omega))
          have hT72 := hT1.kp (fun j hj => hF72.1 _ (by omega))
          have hE72 := hE1.fr hF72 (by omega)
          refine J_if_eq (tgt := 122) dX8_execute_75 (by decide) (fun h75 => absurd h75 (by decide)) (fun h75 => ?_)
          refine J_aload_n dX8_execute_78 rfl rfl ?_
          refine J_aload_n dX8_execute_79 rfl rfl ?_
          refine J_getfield dX8_execute_80 fX8_46 hX0 rfl ?_
          refine J_getfield dX8_execute_83 fX8_306 hdO rfl ?_
          refine J_aload_n dX8_execute_86 rfl rfl ?_
          refine J_getfield dX8_execute_87 fX8_46 hX0 rfl ?_
          refine J_getfield dX8_execute_90 fX8_310 hdO rfl ?_
          refine J_aload_n dX8_execute_93 rfl rfl ?_
          refine J_getfield dX8_execute_94 fX8_46 hX0 rfl ?_
          refine J_getfield dX8_execute_97 fX8_313 hdO rfl ?_
          refine K_callVp dX8_execute_100 YX8_perform kX8_316 (rc_of hX0 rfl) (c_X8_perform hX0 hL72 hT72 h9 hlen hnu) rfl rfl (Nat.le_of_ble_eq_true rfl) (by decide) (fun v100 w100 q100 => ?_)
          obtain ⟨rfl, hC100, hT100, hF100⟩ := q100
          have hX0 := (hF100.1 _ (by omega) (by omega)).trans hX0
          have hH100 := hH72.kp (fun j hj => hF100.1 _ (by omega) (by omega))
          have hD100 := hD72.kp (fun j hj => hF100.1 _ (by omega) (by omega))
          have hE100 := hE72.f2 hF100
          have hrk := ans_ge (rok_do hL72.wf cq)
          refine J_if_ge (tgt := 110) dX8_execute_103 (by decide) (fun h103 => ?_) (fun h103 => ?_)
          · skip
            have hR := hrk.mp h103
            refine J_iconst (v := nI 0) dX8_execute_110 (by decide) ?_
            refine J_istore_n dX8_execute_111 rfl (by decide) rfl ?_
            refine J_iload_n dX8_execute_112 rfl rfl ?_
            refine J_if_ne (tgt := 58) dX8_execute_113 (by decide) (fun h113 => absurd rfl h113) (fun h113 => ?_)
            refine J_iinc (v := nI (k + 1)) dX8_execute_116 rfl (nI_succ _).symm (by decide) rfl ?_
            refine J_goto (tgt := 58) dX8_execute_119 (by decide) ?_
            cases e' with
            | true =>
              rw [pAll_l _ hr] at hrun hkl
              rw [runC_y hR] at hrun
              exact ih (k + 1) p' true _ _ _ _ _ (by omega) (by omega) (by omega) (Or.inl ⟨rfl, hrun, hkl⟩) hX0 hC100 hT100 hD100 hH100 hE100
            | false =>
              rw [pAll_c _ hr] at hrun hkl hno
              rw [runC_y hR] at hrun
              have h60 : 61 - (k + 1) = 60 - k := by omega
              exact ih (k + 1) p' false _ _ _ _ _ (by omega) (by omega) (by omega) (Or.inr ⟨rfl, by rw [h60]; exact hno, by rw [h60]; exact hrun, by rw [h60, hkl, List.length_cons]; omega⟩) hX0 hC100 hT100 hD100 hH100 hE100
          · skip
            have hR := mt hrk.mpr h103
            refine J_iconst (v := nI 1) dX8_execute_106 (by decide) ?_
            refine J_goto (tgt := 111) dX8_execute_107 (by decide) ?_
            refine J_istore_n dX8_execute_111 rfl (by decide) rfl ?_
            refine J_iload_n dX8_execute_112 rfl rfl ?_
            refine J_if_ne (tgt := 58) dX8_execute_113 (by decide) (fun h113 => ?_) (fun h113 => absurd h113 (by decide))
            have hbad : runC (pAll (gT G) (gN G) 61 0).1 0 (gS G) = (some k, Sk) := by
              cases e' with
              | true => rw [pAll_l _ hr] at hrun; rw [hrun, runC_n hR]
              | false => rw [pAll_c _ hr] at hrun; rw [hrun, runC_n hR]
            exact fail k _ _ _ _ _ _ _ _ hpe hbad hk hX0 hC100 hT100 hD100 hH100 hE100
  refine J_aload_n dX8_execute_0 rfl rfl ?_
  refine J_getfield dX8_execute_1 fX8_46 hX0 rfl ?_
  refine K_callVp dX8_execute_4 YX2_findError kX8_290 (RepD.rc hD) (c_X2_findError hD) rfl rfl (Nat.le_of_ble_eq_true rfl) (by decide) (fun v4 w4 q4 => ?_)
  obtain ⟨rfl, hF4, p4, e4, m4, z1, z2, hD4⟩ := q4
  have hX0 := (hF4.1 _ (by omega)).trans hX0
  have hL4 := hL.kept (fun j hj => hF4.1 _ (by omega))
  have hH4 := hH.kp (fun j hj => hF4.1 _ (by omega))
  have hT4 := hTr.kp (fun j hj => hF4.1 _ (by omega))
  have hE4 := (EXF.rf w x).fr hF4 (by omega)
  have hn60 : gN G ≤ 60 := by obtain ⟨-, -, -, q4, -⟩ := id hD4; exact q4
  have hqb : ∀ q, (pAll (gT G) (gN G) 61 0).2 = some q → q < 2 ^ 31 := fun q hq => by have := pAll_b _ _ (Nat.zero_le _) q hq; omega
  refine J_istore_n dX8_execute_7 rfl (by decide) rfl ?_
  refine J_iload_n dX8_execute_8 rfl rfl ?_
  refine J_iconst (v := (-1)) dX8_execute_9 (by decide) ?_
  refine J_icmp_eq (tgt := 36) dX8_execute_10 (by decide) (fun h10 => ?_) (fun h10 => ?_)
  · skip
    have e10 : (pAll (gT G) (gN G) 61 0).2 = none := (oI_m1 hqb).mp h10
    refine J_aload_n dX8_execute_36 rfl rfl ?_
    refine J_getfield dX8_execute_37 fX8_25 hX0 rfl ?_
    refine J_aload_n dX8_execute_40 rfl rfl ?_
    refine J_getfield dX8_execute_41 fX8_12 hX0 rfl ?_
    refine K_callVp dX8_execute_44 YX3_keep kX8_68 (RepH.rc hH4) (c_X3_keep hH4 hL4 (by omega)) rfl rfl (Nat.le_of_ble_eq_true rfl) (by decide) (fun v44 w44 q44 => ?_)
    obtain ⟨rfl, hF44, hH44⟩ := q44
    have hX0 := (hF44.1 _ (by omega)).trans hX0
    have hL44 := hL4.kept (fun j hj => hF44.1 _ (by omega))
    have hT44 := hT4.kp (fun j hj => hF44.1 _ (by omega))
    have hD44 := hD4.kp (fun j hj => hF44.1 _ (by omega))
    have hE44 := hE4.fr hF44 (by omega)
    refine J_iconst (v := nI 0) dX8_execute_47 (by decide) ?_
    refine J_istore_n dX8_execute_48 rfl (by decide) rfl ?_
    refine J_iconst (v := nI 0) dX8_execute_49 (by decide) ?_
    refine J_istore_n dX8_execute_50 rfl (by decide) rfl ?_
    refine J_aload_n dX8_execute_51 rfl rfl ?_
    refine J_getfield dX8_execute_52 fX8_46 hX0 rfl ?_
    refine K_callVp dX8_execute_55 YX2_rewind kX8_299 (RepD.rc hD44) (c_X2_rewind hD44) rfl rfl (Nat.le_of_ble_eq_true rfl) (by decide) (fun v55 w55 q55 => ?_)
    obtain ⟨rfl, hF55, hD55⟩ := q55
    have hX0 := (hF55.1 _ (by omega)).trans hX0
    have hL55 := hL44.kept (fun j hj => hF55.1 _ (by omega))
    have hT55 := hT44.kp (fun j hj => hF55.1 _ (by omega))
    have hH55 := hH44.kp (fun j hj => hF55.1 _ (by omega))
    have hE55 := hE44.fr hF55 (by omega)
    rw [show oI (pAll (gT G) (gN G) 61 0).2 = -1 from by rw [e10]; rfl]
    exact loop e10 61 0 0 false _ _ _ _ _ (by omega) (Nat.le_refl _) (Nat.zero_le _) (Or.inr ⟨rfl, e10, rfl, (Nat.zero_add _).symm⟩) hX0 hL55 hT55 hD55 hH55 hE55
  · skip
    obtain ⟨q, e10⟩ : ∃ k_, (pAll (gT G) (gN G) 61 0).2 = some k_ := by
      cases q : (pAll (gT G) (gN G) 61 0).2 with
      | none => exact absurd ((oI_m1 hqb).mpr q) h10
      | some k_ => exact ⟨k_, rfl⟩
    rw [e10, oI_s]
    refine J_aload_n dX8_execute_13 rfl rfl ?_
    refine J_iload_n dX8_execute_14 rfl rfl ?_
    refine K_putI dX8_execute_15 fX8_61 (Or.inl rfl) hX0 (Nat.le_of_ble_eq_true rfl) (fun w1 u1 => ?_)
    have hX0 := u1.1
    have hX0 : w1.1 x = .inr (8, [.ref (x + 1), .ref (x + 10), .ref (x + 19), .ref (x + 28), .ref (x + 111), .ref (x + 115), .ref (x + 122), .ref (x + 124), .int (b2i (gH G)), .int (nI q), .int (oI (gF G))]) := hX0
    refine J_aload_n dX8_execute_18 rfl rfl ?_
    refine J_getfield dX8_execute_19 fX8_46 hX0 rfl ?_
    refine K_callVp dX8_execute_22 YX2_clear kX8_293 (RepD.rc (hD4.kp (fun j hj => u1.2.1 _ (by omega)))) (c_X2_clear (hD4.kp (fun j hj => u1.2.1 _ (by omega)))) rfl rfl (Nat.le_of_ble_eq_true rfl) (by decide) (fun v22 w22 q22 => ?_)
    obtain ⟨rfl, hF22, hD22⟩ := q22
    have hX0 := (hF22.1 _ (by omega)).trans hX0
    exact J_throw thX8_execute_25 (Nat.le_refl _) (Nat.le_refl _) (GXo_no (c := 1) (v := 0) (G' := (G.1, G.2.1, gO G, (gT G, 0), (some q, gF G))) (exec_err e10) ((hE4.all.up u1 (by omega) (by omega)).tr hF22 (by omega) (by omega)) (hX.ex (fun b a0 a1 a2 a3 => (hF22.1 b (by omega)).trans ((u1.2.1 b a0).trans (hE4.1 b a1 a2 a3))) hX0 (hL4.kept (fun j hj => (hF22.1 _ (by omega)).trans (u1.2.1 _ (by omega)))) (hH4.kp (fun j hj => (hF22.1 _ (by omega)).trans (u1.2.1 _ (by omega)))) (hT4.kp (fun j hj => (hF22.1 _ (by omega)).trans (u1.2.1 _ (by omega)))) hD22 rfl rfl (fun z hz => by cases hz; have := pAll_b _ _ (Nat.zero_le _) _ e10; omega) hB.2.2))

end JEXEC2

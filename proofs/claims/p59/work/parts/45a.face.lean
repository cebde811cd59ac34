/-! THE CLASS: its face -/
section JFACE
def GBd (G : Gme) : Prop := (∀ j, j < (gO G).length → (gO G).getD j 0 < 256) ∧ (∀ k, gE G = some k → k < 1000) ∧ (∀ k, gF G = some k → k < 1000)
abbrev xCell (x : Nat) (G : Gme) : Ce := .inr (8, [.ref (x + 1), .ref (x + 10), .ref (x + 19), .ref (x + 28), .ref (x + 111), .ref (x + 115), .ref (x + 122), .ref (x + 124), .int (b2i (gH G)), .int (oI (gE G)), .int (oI (gF G))])
/-- the class's object at x holds the system G -/
def RepX (w : Wd) (x : Nat) (G : Gme) : Prop := w.1 x = xCell x G ∧ RepC w (x + 1) (gS G) ∧ RepC w (x + 10) (gV G) ∧ (∃ S9, RepC w (x + 19) S9) ∧ (∃ K, RepH w (x + 28) (gP G) (gC G) K) ∧ RepR w (x + 111) ∧ RepT w (x + 115) ∧ (∃ p e m x1 x2, RepD w (x + 122) (gT G) (gN G) p e m x1 x2) ∧ RepO w (x + 124) (gO G) ∧ GBd G
/-- an answer of the class -/
def GXo (w : Wd) (x : Nat) (R : GRs) : Po := fun r w' => Fr w w' x (x + 126) ∧ RepX w' x R.2.2 ∧ ((R.1 = 0 ∧ r = .inl (some (.int R.2.1))) ∨ (R.1 ≠ 0 ∧ r = .inr (exN R.1)))
theorem GXo_ok {w w' : Wd} {x : Nat} {R : GRs} {v y : Int32} {G' : Gme} (e : R = (0, v, G')) (hy : y = v) (f : Fr w w' x (x + 126)) (h : RepX w' x G') : GXo w x R (.inl (some (.int y))) w' := by
  subst e
  subst hy
  exact ⟨f, h, Or.inl ⟨rfl, rfl⟩⟩
theorem GXo_no {w w' : Wd} {x : Nat} {R : GRs} {v : Int32} {c : Nat} {G' : Gme} (e : R = (c + 1, v, G')) (f : Fr w w' x (x + 126)) (h : RepX w' x G') : GXo w x R (.inr (exN (c + 1))) (stW w') := by
  subst e
  exact ⟨f, h, Or.inr ⟨Nat.succ_ne_zero c, rfl⟩⟩
section
variable {d : Nat} {mi : MI} {pc : Nat} {lc : List (Option Value)} {st : List Value} {w : Wd} {kb sb : Nat} {Q : Po}
theorem K_vthrow {idx n d' : Nat} {y : MI} {a : Nat} {As st0 : List Value} {E : String} {w2 : Wd} (hd : decode mi.2.1 pc = .ok (.invokevirtual idx, 3)) (hY : YL y n) (hL : Cond.methodLink mi.1.cls idx y.1 ∈ AL ∧ Cond.instanceMethod y.1 ∈ AL ∧ Cond.selects y.1.cls y.1 y.1 ∈ AL) (hrec : Rc w a y.1.cls) (hM : MC d' y 1 6 (.ref a :: As) w (fun r w' => r = .inr E ∧ w' = w2)) (hn : As.length = n) (hst : st0 = As.reverse ++ .ref a :: st) (hcat : (st.map fun v => v.category).sum ≤ 8) (hdd : d' + 1 ≤ d) (hh : mi.2.2.2.2 = []) (hq : Q (.inr E) w2) : J d mi pc lc st0 w 1 6 Q :=
  J_callV (kb := 0) (sb := 0) hd hY hL hrec hM hn hst hcat hdd (fun v w' e => by cases e.1) (fun E' w' ⟨e1, e2⟩ => by cases e1; subst e2; exact JX_out (by rw [hh]; exact covers_nil) hq)
theorem K_sthrow {idx n d' : Nat} {y : MI} {As st0 : List Value} {E : String} {w2 : Wd} (hd : decode mi.2.1 pc = .ok (.invokestatic idx, 3)) (hY : YL y n) (hL : Cond.methodLink mi.1.cls idx y.1 ∈ AL ∧ Cond.static y.1 ∈ AL) (hM : MC d' y 1 6 As w (fun r w' => r = .inr E ∧ w' = w2)) (hn : As.length = n) (hst : st0 = As.reverse ++ st) (hcat : (st.map fun v => v.category).sum ≤ 8) (hdd : d' + 1 ≤ d) (hh : mi.2.2.2.2 = []) (hq : Q (.inr E) w2) : J d mi pc lc st0 w 1 6 Q :=
  J_callS (kb := 0) (sb := 0) hd hY hL hM hn hst hcat hdd (fun v w' e => by cases e.1) (fun E' w' ⟨e1, e2⟩ => by cases e1; subst e2; exact JX_out (by rw [hh]; exact covers_nil) hq)
end
theorem c_X8_needBlock_ok {w : Wd} {x : Nat} {G : Gme} {S : St} (hX0 : w.1 x = xCell x G) (hL : RepC w (x + 1) S) {i : Nat} (hi : i < sNb S) : MC 6 mX8_needBlock 0 0 [.ref x, .int (nI i)] w (RU w) := by
  refine MC_j pnX8 rfl rfl rfl (Or.inr (fun E w h => by cases h.1)) ?_
  show J 6 mX8_needBlock 0 [some (.ref x), some (.int (nI i))] [] w 0 0 _
  refine J_aload_n dX8_needBlock_0 rfl rfl ?_
  refine J_getfield dX8_needBlock_1 fX8_12 hX0 rfl ?_
  refine J_iload_n dX8_needBlock_4 rfl rfl ?_
  refine K_callV dX8_needBlock_5 YX4_isBlock kX8_341 (RepC.rc hL) (c_X4_isBlock hL _) rfl rfl (Nat.le_of_ble_eq_true rfl) (by decide) ?_
  refine J_if_ne (tgt := 22) dX8_needBlock_8 (by decide) (fun h8 => ?_) (fun h8 => absurd (b2i_eq.mp h8) (by rw [vi_nI hi (by have := hL.wf.nb; have := hL.wf.nt; omega)]; exact fun z => by cases z))
  exact J_return dX8_needBlock_22 rfl ⟨rfl, rfl⟩

theorem c_X8_needBlock_no {w : Wd} {x : Nat} {G : Gme} {S : St} (hX0 : w.1 x = xCell x G) (hL : RepC w (x + 1) S) {y : Int32} (e0 : vi (sNb S) y = none) : MC 6 mX8_needBlock 1 6 [.ref x, .int y] w (fun r w' => r = .inr (exN 1) ∧ w' = stW w) := by
  refine MC_j pnX8 rfl rfl rfl (Or.inl (by decide)) ?_
  show J 6 mX8_needBlock 0 [some (.ref x), some (.int y)] [] w 1 6 _
  refine J_aload_n dX8_needBlock_0 rfl rfl ?_
  refine J_getfield dX8_needBlock_1 fX8_12 hX0 rfl ?_
  refine J_iload_n dX8_needBlock_4 rfl rfl ?_
  refine K_callV dX8_needBlock_5 YX4_isBlock kX8_341 (RepC.rc hL) (c_X4_isBlock hL _) rfl rfl (Nat.le_of_ble_eq_true rfl) (by decide) ?_
  refine J_if_ne (tgt := 22) dX8_needBlock_8 (by decide) (fun h8 => absurd (b2i_ne.mp h8) (by rw [e0]; decide)) (fun h8 => ?_)
  exact J_throw thX8_needBlock_11 (Nat.le_refl _) (Nat.le_refl _) ⟨rfl, rfl⟩

theorem c_X8_needTrain_ok {w : Wd} {x : Nat} {G : Gme} {S : St} (hX0 : w.1 x = xCell x G) (hL : RepC w (x + 1) S) {i : Nat} (hi : i < sNt S) : MC 6 mX8_needTrain 0 0 [.ref x, .int (nI i)] w (RU w) := by
  refine MC_j pnX8 rfl rfl rfl (Or.inr (fun E w h => by cases h.1)) ?_
  show J 6 mX8_needTrain 0 [some (.ref x), some (.int (nI i))] [] w 0 0 _
  refine J_aload_n dX8_needTrain_0 rfl rfl ?_
  refine J_getfield dX8_needTrain_1 fX8_12 hX0 rfl ?_
  refine J_iload_n dX8_needTrain_4 rfl rfl ?_
  refine K_callV dX8_needTrain_5 YX4_isTrain kX8_347 (RepC.rc hL) (c_X4_isTrain hL _) rfl rfl (Nat.le_of_ble_eq_true rfl) (by decide) ?_
  refine J_if_ne (tgt := 22) dX8_needTrain_8 (by decide) (fun h8 => ?_) (fun h8 => absurd (b2i_eq.mp h8) (by rw [vi_nI hi (by have := hL.wf.nb; have := hL.wf.nt; omega)]; exact fun z => by cases z))
  exact J_return dX8_needTrain_22 rfl ⟨rfl, rfl⟩

theorem c_X8_needTrain_no {w : Wd} {x : Nat} {G : Gme} {S : St} (hX0 : w.1 x = xCell x G) (hL : RepC w (x + 1) S) {y : Int32} (e0 : vi (sNt S) y = none) : MC 6 mX8_needTrain 1 6 [.ref x, .int y] w (fun r w' => r = .inr (exN 1) ∧ w' = stW w) := by
  refine MC_j pnX8 rfl rfl rfl (Or.inl (by decide)) ?_
  show J 6 mX8_needTrain 0 [some (.ref x), some (.int y)] [] w 1 6 _
  refine J_aload_n dX8_needTrain_0 rfl rfl ?_
  refine J_getfield dX8_needTrain_1 fX8_12 hX0 rfl ?_
  refine J_iload_n dX8_needTrain_4 rfl rfl ?_
  refine K_callV dX8_needTrain_5 YX4_isTrain kX8_347 (RepC.rc hL) (c_X4_isTrain hL _) rfl rfl (Nat.le_of_ble_eq_true rfl) (by decide) ?_
  refine J_if_ne (tgt := 22) dX8_needTrain_8 (by decide) (fun h8 => absurd (b2i_ne.mp h8) (by rw [e0]; decide)) (fun h8 => ?_)
  exact J_throw thX8_needTrain_11 (Nat.le_refl _) (Nat.le_refl _) ⟨rfl, rfl⟩

theorem c_X8_found_ok {w : Wd} {k : Nat} (hk : k < 2 ^ 31) : MC 6 mX8_found 0 0 [.int (nI k)] w (RI (.int (nI k)) w) := by
  refine MC_j pnX8 rfl rfl rfl (Or.inr (fun E w h => by cases h.1)) ?_
  show J 6 mX8_found 0 [some (.int (nI k))] [] w 0 0 _
  refine J_iload_n dX8_found_0 rfl rfl ?_
  refine J_iconst (v := (-1)) dX8_found_1 (by decide) ?_
  refine J_icmp_ne (tgt := 16) dX8_found_2 (by decide) (fun h2 => ?_) (fun h2 => absurd h2 (nI_ne_m1 hk))
  refine J_iload_n dX8_found_16 rfl rfl ?_
  exact J_ireturn dX8_found_17 rfl rfl ⟨rfl, rfl⟩

theorem c_X8_found_no {w : Wd} : MC 6 mX8_found 1 6 [.int (-1)] w (fun r w' => r = .inr (exN 5) ∧ w' = stW w) := by
  refine MC_j pnX8 rfl rfl rfl (Or.inl (by decide)) ?_
  show J 6 mX8_found 0 [some (.int (-1))] [] w 1 6 _
  refine J_iload_n dX8_found_0 rfl rfl ?_
  refine J_iconst (v := (-1)) dX8_found_1 (by decide) ?_
  refine J_icmp_ne (tgt := 16) dX8_found_2 (by decide) (fun h2 => absurd rfl h2) (fun h2 => ?_)
  exact J_throw thX8_found_5 (Nat.le_refl _) (Nat.le_refl _) ⟨rfl, rfl⟩

theorem nI_ne_neg {k : Nat} (hk : k < 2 ^ 31) {y : Int32} (hy : y.toInt < 0) : ¬ nI k = y := by
  intro h
  have := congrArg Int32.toInt h
  rw [nI_toInt hk] at this
  omega
theorem RepH.rc {w : Wd} {h : Nat} {P : Nat → St} {ct : Nat} {K : St} (H : RepH w h P ct K) : Rc w h RX3 := by
  obtain ⟨nx, sl, f, a0, -⟩ := H
  exact rc_of a0 rfl
theorem RepR.rc {w : Wd} {r : Nat} (h : RepR w r) : Rc w r RX6 := by
  obtain ⟨g1, g2, g3, a0, -⟩ := h
  exact rc_of a0 rfl
theorem RepT.rc {w : Wd} {u : Nat} (h : RepT w u) : Rc w u RX7 := by
  obtain ⟨h1, h2, a0, -⟩ := h
  exact rc_of a0 rfl
theorem RepD.rc {w : Wd} {c : Nat} {t : Nat → Nat} {n p : Nat} {e : Bool} {m : Nat} {x1 x2 : Int32} (h : RepD w c t n p e m x1 x2) : Rc w c RX2 := by
  obtain ⟨f, a0, -⟩ := h
  exact rc_of a0 rfl
theorem RepO.rc {w : Wd} {o : Nat} {l : List Nat} (h : RepO w o l) : Rc w o RX5 := by
  obtain ⟨f, a0, -⟩ := h
  exact rc_of a0 rfl
theorem RepX.rc {w : Wd} {x : Nat} {G : Gme} (h : RepX w x G) : Rc w x RX8 := rc_of h.1 rfl
theorem c_X8_changed_ok {w : Wd} {x : Nat} {G : Gme} {P : Nat → St} {ct : Nat} {K : St} (hX0 : w.1 x = xCell x G) (hH : RepH w (x + 28) P ct K) {k : Nat} (hk : k < 2 ^ 31) : MC 6 mX8_changed 0 0 [.ref x, .int (nI k)] w (RP (fun v w' => v = some (.int (nI k)) ∧ Fr w w' (x + 28) (x + 29) ∧ ∃ K', RepH w' (x + 28) (pushP P ct K) (pushN ct) K')) := by
  refine MC_j pnX8 rfl rfl rfl (Or.inr (fun E w h => RP_no E w h)) ?_
  show J 6 mX8_changed 0 [some (.ref x), some (.int (nI k))] [] w 0 0 _
  refine J_iload_n dX8_changed_0 rfl rfl ?_
  refine J_bipush (v := (-11)) dX8_changed_1 (by decide) ?_
  refine J_icmp_ne (tgt := 17) dX8_changed_3 (by decide) (fun h3 => ?_) (fun h3 => absurd h3 (nI_ne_neg hk (by decide)))
  refine J_iload_n dX8_changed_17 rfl rfl ?_
  refine J_bipush (v := (-12)) dX8_changed_18 (by decide) ?_
  refine J_icmp_ne (tgt := 34) dX8_changed_20 (by decide) (fun h20 => ?_) (fun h20 => absurd h20 (nI_ne_neg hk (by decide)))
  refine J_iload_n dX8_changed_34 rfl rfl ?_
  refine J_bipush (v := (-13)) dX8_changed_35 (by decide) ?_
  refine J_icmp_ne (tgt := 51) dX8_changed_37 (by decide) (fun h37 => ?_) (fun h37 => absurd h37 (nI_ne_neg hk (by decide)))
  refine J_iload_n dX8_changed_51 rfl rfl ?_
  refine J_bipush (v := (-14)) dX8_changed_52 (by decide) ?_
  refine J_icmp_ne (tgt := 68) dX8_changed_54 (by decide) (fun h54 => ?_) (fun h54 => absurd h54 (nI_ne_neg hk (by decide)))
  refine J_iload_n dX8_changed_68 rfl rfl ?_
  refine J_bipush (v := (-15)) dX8_changed_69 (by decide) ?_
  refine J_icmp_ne (tgt := 85) dX8_changed_71 (by decide) (fun h71 => ?_) (fun h71 => absurd h71 (nI_ne_neg hk (by decide)))
  refine J_aload_n dX8_changed_85 rfl rfl ?_
  refine J_getfield dX8_changed_86 fX8_25 hX0 rfl ?_
  refine K_callVp dX8_changed_89 YX3_confirm kX8_362 (RepH.rc hH) (c_X3_confirm hH) rfl rfl (Nat.le_of_ble_eq_true rfl) (by decide) (fun v89 w89 q89 => ?_)
  obtain ⟨rfl, hF89, hK89⟩ := q89
  have hX0 := (hF89.1 _ (by omega)).trans hX0
  refine J_iload_n dX8_changed_92 rfl rfl ?_
  exact J_ireturn dX8_changed_93 rfl rfl (RP_i ⟨rfl, hF89, hK89⟩)

theorem c_X8_changed_1 {w : Wd} {x : Nat} : MC 6 mX8_changed 1 6 [.ref x, .int (-11)] w (fun r w' => r = .inr (exN 1) ∧ w' = stW w) := by
  refine MC_j pnX8 rfl rfl rfl (Or.inl (by decide)) ?_
  show J 6 mX8_changed 0 [some (.ref x), some (.int (-11))] [] w 1 6 _
  refine J_iload_n dX8_changed_0 rfl rfl ?_
  refine J_bipush (v := (-11)) dX8_changed_1 (by decide) ?_
  refine J_icmp_ne (tgt := 17) dX8_changed_3 (by decide) (fun h3 => absurd rfl h3) (fun h3 => ?_)
  exact J_throw thX8_changed_6 (Nat.le_refl _) (Nat.le_refl _) ⟨rfl, rfl⟩

theorem c_X8_changed_2 {w : Wd} {x : Nat} : MC 6 mX8_changed 1 6 [.ref x, .int (-12)] w (fun r w' => r = .inr (exN 2) ∧ w' = stW w) := by
  refine MC_j pnX8 rfl rfl rfl (Or.inl (by decide)) ?_
  show J 6 mX8_changed 0 [some (.ref x), some (.int (-12))] [] w 1 6 _
  refine J_iload_n dX8_changed_0 rfl rfl ?_
  refine J_bipush (v := (-11)) dX8_changed_1 (by decide) ?_
  refine J_icmp_ne (tgt := 17) dX8_changed_3 (by decide) (fun h3 => ?_) (fun h3 => absurd h3 (by decide))
  refine J_iload_n dX8_changed_17 rfl rfl ?_
  refine J_bipush (v := (-12)) dX8_changed_18 (by decide) ?_
  refine J_icmp_ne (tgt := 34) dX8_changed_20 (by decide) (fun h20 => absurd rfl h20) (fun h20 => ?_)
  exact J_throw thX8_changed_23 (Nat.le_refl _) (Nat.le_refl _) ⟨rfl, rfl⟩

theorem c_X8_changed_3 {w : Wd} {x : Nat} : MC 6 mX8_changed 1 6 [.ref x, .int (-13)] w (fun r w' => r = .inr (exN 3) ∧ w' = stW w) := by
  refine MC_j pnX8 rfl rfl rfl (Or.inl (by decide)) ?_
  show J 6 mX8_changed 0 [some (.ref x), some (.int (-13))] [] w 1 6 _
  refine J_iload_n dX8_changed_0 rfl rfl ?_
  refine J_bipush (v := (-11)) dX8_changed_1 (by decide) ?_
  refine J_icmp_ne (tgt := 17) dX8_changed_3 (by decide) (fun h3 => ?_) (fun h3 => absurd h3 (by decide))
  refine J_iload_n dX8_changed_17 rfl rfl ?_
  refine J_bipush (v := (-12)) dX8_changed_18 (by decide) ?_
  refine J_icmp_ne (tgt := 34) dX8_changed_20 (by decide) (fun h20 => ?_) (fun h20 => absurd h20 (by decide))
  refine J_iload_n dX8_changed_34 rfl rfl ?_
  refine J_bipush (v := (-13)) dX8_changed_35 (by decide) ?_
  refine J_icmp_ne (tgt := 51) dX8_changed_37 (by decide) (fun h37 => absurd rfl h37) (fun h37 => ?_)
  exact J_throw thX8_changed_40 (Nat.le_refl _) (Nat.le_refl _) ⟨rfl, rfl⟩

theorem c_X8_changed_4 {w : Wd} {x : Nat} : MC 6 mX8_changed 1 6 [.ref x, .int (-14)] w (fun r w' => r = .inr (exN 4) ∧ w' = stW w) := by
  refine MC_j pnX8 rfl rfl rfl (Or.inl (by decide)) ?_
  show J 6 mX8_changed 0 [some (.ref x), some (.int (-14))] [] w 1 6 _
  refine J_iload_n dX8_changed_0 rfl rfl ?_
  refine J_bipush (v := (-11)) dX8_changed_1 (by decide) ?_
  refine J_icmp_ne (tgt := 17) dX8_changed_3 (by decide) (fun h3 => ?_) (fun h3 => absurd h3 (by decide))
  refine J_iload_n dX8_changed_17 rfl rfl ?_
  refine J_bipush (v := (-12)) dX8_changed_18 (by decide) ?_
  refine J_icmp_ne (tgt := 34) dX8_changed_20 (by decide) (fun h20 => ?_) (fun h20 => absurd h20 (by decide))
  refine J_iload_n dX8_changed_34 rfl rfl ?_
  refine J_bipush (v := (-13)) dX8_changed_35 (by decide) ?_
  refine J_icmp_ne (tgt := 51) dX8_changed_37 (by decide) (fun h37 => ?_) (fun h37 => absurd h37 (by decide))
  refine J_iload_n dX8_changed_51 rfl rfl ?_
  refine J_bipush (v := (-14)) dX8_changed_52 (by decide) ?_
  refine J_icmp_ne (tgt := 68) dX8_changed_54 (by decide) (fun h54 => absurd rfl h54) (fun h54 => ?_)
  exact J_throw thX8_changed_57 (Nat.le_refl _) (Nat.le_refl _) ⟨rfl, rfl⟩

theorem c_X8_changed_5 {w : Wd} {x : Nat} : MC 6 mX8_changed 1 6 [.ref x, .int (-15)] w (fun r w' => r = .inr (exN 5) ∧ w' = stW w) := by
  refine MC_j pnX8 rfl rfl rfl (Or.inl (by decide)) ?_
  show J 6 mX8_changed 0 [some (.ref x), some (.int (-15))] [] w 1 6 _
  refine J_iload_n dX8_changed_0 rfl rfl ?_
  refine J_bipush (v := (-11)) dX8_changed_1 (by decide) ?_
  refine J_icmp_ne (tgt := 17) dX8_changed_3 (by decide) (fun h3 => ?_) (fun h3 => absurd h3 (by decide))
  refine J_iload_n dX8_changed_17 rfl rfl ?_
  refine J_bipush (v := (-12)) dX8_changed_18 (by decide) ?_
  refine J_icmp_ne (tgt := 34) dX8_changed_20 (by decide) (fun h20 => ?_) (fun h20 => absurd h20 (by decide))
  refine J_iload_n dX8_changed_34 rfl rfl ?_
  refine J_bipush (v := (-13)) dX8_changed_35 (by decide) ?_
  refine J_icmp_ne (tgt := 51) dX8_changed_37 (by decide) (fun h37 => ?_) (fun h37 => absurd h37 (by decide))
  refine J_iload_n dX8_changed_51 rfl rfl ?_
  refine J_bipush (v := (-14)) dX8_changed_52 (by decide) ?_
  refine J_icmp_ne (tgt := 68) dX8_changed_54 (by decide) (fun h54 => ?_) (fun h54 => absurd h54 (by decide))
  refine J_iload_n dX8_changed_68 rfl rfl ?_
  refine J_bipush (v := (-15)) dX8_changed_69 (by decide) ?_
  refine J_icmp_ne (tgt := 85) dX8_changed_71 (by decide) (fun h71 => absurd rfl h71) (fun h71 => ?_)
  exact J_throw thX8_changed_74 (Nat.le_refl _) (Nat.le_refl _) ⟨rfl, rfl⟩

theorem c_X8_changed_no {w : Wd} {x : Nat} {c : Nat} (h1 : c ≠ 0) (h5 : c ≤ 5) : MC 6 mX8_changed 1 6 [.ref x, .int (refC c)] w (fun r w' => r = .inr (exN c) ∧ w' = stW w) := by
  have : c = 1 ∨ c = 2 ∨ c = 3 ∨ c = 4 ∨ c = 5 := by omega
  rcases this with rfl | rfl | rfl | rfl | rfl
  · exact c_X8_changed_1
  · exact c_X8_changed_2
  · exact c_X8_changed_3
  · exact c_X8_changed_4
  · exact c_X8_changed_5
section
variable {d : Nat} {mi : MI} {pc : Nat} {lc : List (Option Value)} {w w2 : Wd} {x : Nat} {G : Gme} {Q : Po}
theorem J_needB (hm : mi.1.cls = RX8) (hd : decode mi.2.1 pc = .ok (.invokevirtual 96, 3)) (hdd : 6 + 1 ≤ d) (hh : mi.2.2.2.2 = []) (hX : RepX w2 x G) {y : Int32} (hno : vi (sNb (gS G)) y = none → Q (.inr (exN 1)) (stW w2)) (k : ∀ i, vi (sNb (gS G)) y = some i → J d mi (pc + 3) lc [] w2 1 6 Q) : J d mi pc lc [.int y, .ref x] w2 1 6 Q := by
  have hL := kX8_96
  rw [← hm] at hL
  cases e : vi (sNb (gS G)) y with
  | none => exact K_vthrow hd YX8_needBlock hL hX.rc (c_X8_needBlock_no hX.1 hX.2.1 e) rfl rfl (Nat.le_of_ble_eq_true rfl) hdd hh (hno e)
  | some i =>
    have hnb := hX.2.1.wf.nb
    obtain ⟨hi, rfl⟩ := vi_some (by omega) e
    exact K_callVp hd YX8_needBlock hL hX.rc (RU_RP (c_X8_needBlock_ok hX.1 hX.2.1 hi)) rfl rfl (Nat.le_of_ble_eq_true rfl) hdd (fun v w' q => by obtain ⟨rfl, rfl⟩ := q; exact k i e)
theorem J_needT (hm : mi.1.cls = RX8) (hd : decode mi.2.1 pc = .ok (.invokevirtual 151, 3)) (hdd : 6 + 1 ≤ d) (hh : mi.2.2.2.2 = []) (hX : RepX w2 x G) {y : Int32} (hno : vi (sNt (gS G)) y = none → Q (.inr (exN 1)) (stW w2)) (k : ∀ i, vi (sNt (gS G)) y = some i → J d mi (pc + 3) lc [] w2 1 6 Q) : J d mi pc lc [.int y, .ref x] w2 1 6 Q := by
  have hL := kX8_151
  rw [← hm] at hL
  cases e : vi (sNt (gS G)) y with
  | none => exact K_vthrow hd YX8_needTrain hL hX.rc (c_X8_needTrain_no hX.1 hX.2.1 e) rfl rfl (Nat.le_of_ble_eq_true rfl) hdd hh (hno e)
  | some i =>
    have hnt := hX.2.1.wf.nt
    obtain ⟨hi, rfl⟩ := vi_some (by omega) e
    exact K_callVp hd YX8_needTrain hL hX.rc (RU_RP (c_X8_needTrain_ok hX.1 hX.2.1 hi)) rfl rfl (Nat.le_of_ble_eq_true rfl) hdd (fun v w' q => by obtain ⟨rfl, rfl⟩ := q; exact k i e)
/-- an answer that may be wanting -/
theorem J_found (hm : mi.1.cls = RX8) (hd : decode mi.2.1 pc = .ok (.invokestatic 128, 3)) (hd2 : decode mi.2.1 (pc + 3) = .ok (.ireturn, 1)) (hr : mi.2.2.2.1 = some .int) (hdd : 6 + 1 ≤ d) (hh : mi.2.2.2.2 = []) {o : Option Nat} (ho : ∀ k, o = some k → k < 2 ^ 31) (hX : RepX w2 x G) (hF : Fr w w2 x (x + 126)) {q : Nat × Int32} (e : q = opA o) : J d mi pc lc [.int (oI o)] w2 1 6 (GXo w x (gQ G q)) := by
  have hL := kX8_128
  rw [← hm] at hL
  subst e
  cases o with
  | none => exact K_sthrow hd YX8_found hL c_X8_found_no rfl rfl (Nat.le_of_ble_eq_true rfl) hdd hh (GXo_no (c := 4) (v := 0) (G' := G) rfl hF hX)
  | some k => exact K_callS hd YX8_found hL (c_X8_found_ok (ho k rfl)) rfl rfl (Nat.le_of_ble_eq_true rfl) hdd (J_ireturn hd2 hr rfl (GXo_ok (v := nI k) (G' := G) rfl rfl hF hX))
theorem RepX.mut {w w1 w2 : Wd} {x : Nat} {G : Gme} {S : St} (hX : RepX w x G) (hK : Fr w w1 (x + 30) (x + 111)) (hH : RepH w1 (x + 28) (gP G) (gC G) (gS G)) (hF : F2 w1 w2 (x + 1) (x + 115)) (hC : RepC w2 (x + 1) S) (hT : RepT w2 (x + 115)) : w2.1 x = xCell x G ∧ RepH w2 (x + 28) (gP G) (gC G) (gS G) ∧ Fr w w2 x (x + 126) ∧ (∀ (w3 : Wd) (P : Nat → St) (ct : Nat) (K : St), Fr w2 w3 (x + 28) (x + 29) → RepH w3 (x + 28) P ct K → RepX w3 x ((S, gV G, gH G), (P, ct), G.2.2)) ∧ (S = gS G → RepX w2 x G) := by
  obtain ⟨h0, h1, h2, ⟨S9, h3⟩, ⟨K9, h4⟩, h5, h6, ⟨p, e, m, x1, x2, h7⟩, h8, h9⟩ := hX
  have g : ∀ b : Nat, (b < x + 30 ∨ x + 111 ≤ b) → (b < x + 1 ∨ x + 10 ≤ b) → (b < x + 117 ∨ x + 122 ≤ b) → w2.1 b = w.1 b := fun b a1 a2 a3 => (hF.1 b (by omega) (by omega)).trans (hK.1 b (by omega))
  have hH2 := hH.kp (w' := w2) (fun j hj => hF.1 _ (by omega) (by omega))
  have hFr : Fr w w2 x (x + 126) := ⟨fun b hb => g b (by omega) (by omega) (by omega), hF.2.trans hK.2⟩
  have k2 := h2.kept (w' := w2) (fun j hj => g _ (by omega) (by omega) (by omega))
  have k3 := h3.kept (w' := w2) (fun j hj => g _ (by omega) (by omega) (by omega))
  have k5 := h5.kp (w' := w2) (fun j hj => g _ (by omega) (by omega) (by omega))
  have k7 := h7.kp (w' := w2) (fun j hj => g _ (by omega) (by omega) (by omega))
  have k8 := h8.kp (w' := w2) (fun j hj => g _ (by omega) (by omega) (by omega))
  have k0 := (g x (by omega) (by omega) (by omega)).trans h0
  refine ⟨k0, hH2, hFr, fun w3 P ct K f h => ?_, fun e => ?_⟩
  · exact ⟨(f.1 _ (by omega)).trans k0, hC.kept (fun j hj => f.1 _ (by omega)), k2.kept (fun j hj => f.1 _ (by omega)), ⟨S9, k3.kept (fun j hj => f.1 _ (by omega))⟩, ⟨K, h⟩, k5.kp (fun j hj => f.1 _ (by omega)), hT.kp (fun j hj => f.1 _ (by omega)), ⟨p, e, m, x1, x2, k7.kp (fun j hj => f.1 _ (by omega))⟩, k8.kp (fun j hj => f.1 _ (by omega)), h9⟩
  · subst e
    exact ⟨k0, hC, k2, ⟨S9, k3⟩, ⟨_, hH2⟩, k5, hT, ⟨p, e, m, x1, x2, k7⟩, k8, h9⟩
/-- the end of a change -/
theorem J_mut (hm : mi.1.cls = RX8) (hd : decode mi.2.1 pc = .ok (.invokevirtual 76, 3)) (hd2 : decode mi.2.1 (pc + 3) = .ok (.ireturn, 1)) (hr : mi.2.2.2.1 = some .int) (hdd : 6 + 1 ≤ d) (hh : mi.2.2.2.2 = []) {w1 : Wd} {R : Rs} (hR : ROK (gS G) R) (hX : RepX w x G) (hK : Fr w w1 (x + 30) (x + 111)) (hH : RepH w1 (x + 28) (gP G) (gC G) (gS G)) (hF : F2 w1 w2 (x + 1) (x + 115)) (hC : RepC w2 (x + 1) R.2.2) (hT : RepT w2 (x + 115)) : J d mi pc lc [.int (ansC R), .ref x] w2 1 6 (GXo w x (gMut G R)) := by
  have hL := kX8_76
  rw [← hm] at hL
  obtain ⟨a1, a2, a3, a4, a5⟩ := hX.mut hK hH hF hC hT
  have hrc : Rc w2 x RX8 := rc_of a1 rfl
  by_cases e : R.1 = 0
  · obtain ⟨k, hk, hv⟩ := hR.2.2 e
    rw [show ansC R = nI k from (if_pos e).trans hv]
    refine K_callVp hd YX8_changed hL hrc (c_X8_changed_ok a1 a2 hk) rfl rfl (Nat.le_of_ble_eq_true rfl) hdd (fun v w' q => ?_)
    obtain ⟨rfl, f, K', hK'⟩ := q
    exact J_ireturn hd2 hr rfl (GXo_ok (v := R.2.1) (G' := gPush G R.2.2) (if_pos e) hv.symm (a3.tr f (by omega) (by omega)) (a4 _ _ _ _ f hK'))
  · rw [show ansC R = refC R.1 from if_neg e]
    refine K_vthrow hd YX8_changed hL hrc (c_X8_changed_no e hR.1) rfl rfl (Nat.le_of_ble_eq_true rfl) hdd hh ?_
    rw [show gMut G R = (R.1, 0, G) from if_neg e]
    exact ⟨a3, a5 (hR.2.1 e), Or.inr ⟨e, rfl⟩⟩
end
theorem F2.of {w w' : Wd} {x : Nat} (f : Fr w w' (x + 1) (x + 10)) : F2 w w' (x + 1) (x + 115) := (F2.rf w _ _).fr f (Or.inl ⟨Nat.le_refl _, Nat.le_refl _⟩)
end JFACE

/-! THE LAW: its loop -/
section JLOOP
/-- what holds when the law's loop comes round -/
def LI (w : Wd) (x a n made : Nat) (G : Gme) (f : Nat → Int64) : Prop := RepX w x G ∧ WG (gS G) (18300 * n) ∧ w.1 a = .inl (2, 80, .inr (.inl f)) ∧ KInv G f made ∧ made ≤ n
theorem LI.k {f : Nat → Int64} {made : Nat} {G G2 : Gme} (h : KInv G f made) (h1 : G2.1 = G.1) (h2 : G2.2.1 = G.2.1) : KInv G2 f made := by
  unfold KInv gC gS gP at *
  rw [h1, h2]
  exact h
set_option maxRecDepth 100000 in
theorem lw_G {x a made n kn t tk kb sb : Nat} {bf : Int64} {ch y1 y2 ar ck v : Int32} {Q : Po} {w : Wd} {ip : Int32} {G G' : Gme} {f : Nat → Int64} (hX : RepX w x G') (hg : WG (gS G) (18300 * n)) (hn : n < 60) (hA : w.1 a = .inl (2, 80, .inr (.inl f))) (ha : a < x ∨ x + 126 ≤ a) (hI : KInv G f made) (hm : made ≤ n) (hdp : DP G G' (18300 * n) v) (hbf : bf = sumS (gS G)) (hch : ch = nI (gC G)) (kk : ∀ w1 G2 m2 (f2 : Nat → Int64), LI w1 x a (n + 1) m2 G2 f2 → J 60 mL_law 28 [some (.ref 3), some (.ref x), some (.ref a), some (.int (nI (m2))), some (.int (nI (5 * (n + 1)))), some (.int (nI (n + 1))), none, none, none, none, none, none, none, none, none, none, none, none, none] [] w1 kb sb Q) : J 60 mL_law 390 [some (.ref 3), some (.ref x), some (.ref a), some (.int (nI made)), some (.int (nI (5 * n))), some (.int (nI n)), some (.long bf), none, some (.int ch), some (.int (nI kn)), some (.int (nI t)), some (.int (nI tk)), some (.int y2), some (.int ar), some (.int ck), some (.int y1), some (.int v), some (.int (ip)), some (.int (nI 1))] [] w (kb + 9401) (sb + 62406) Q := by
  have hgx : WG (gS G') (18300 * (n + 1)) := by
    obtain ⟨Gx, g1, g2, ⟨-, rfl⟩ | ⟨-, S', rfl, hwg⟩⟩ := hdp
    · have e : gS G' = gS G := by unfold gS; rw [g1]
      rw [e]
      exact hg.mono (by omega)
    · exact hwg.mono (by omega)
  have fin : ∀ w1, KP w w1 x → RepX w1 x G' → J 60 mL_law 423 [some (.ref 3), some (.ref x), some (.ref a), some (.int (nI made)), some (.int (nI (5 * (n + 1)))), some (.int (nI n)), some (.long bf), none, some (.int ch), some (.int (nI kn)), some (.int (nI t)), some (.int (nI tk)), some (.int y2), some (.int ar), some (.int ck), some (.int y1), some (.int v), some (.int (ip)), some (.int (nI 1))] [] w1 (kb + 401) (sb + 2406) Q := by
    intro w1 kp hX
    refine J_iload dL_law_423 rfl ?_
    refine J_bipush (v := (-74)) dL_law_425 (by decide) ?_
    rcases hdp with ⟨Gx, g1, g2, ⟨hle, rfl⟩ | ⟨hlt, S', rfl, hwg⟩⟩
    · skip
      refine J_icmp_gt (tgt := 451) dL_law_427 (by decide) (fun h => absurd h (Int32.not_lt.mpr hle)) (fun h => ?_)
      refine J_aload_n dL_law_430 rfl rfl ?_
      refine K_sc (kb := kb + 1) (sb := sb + 6) dL_law_431 YL_sum kL_189 (c_L_sum hX) rfl rfl (Nat.le_of_ble_eq_true rfl) (by decide) (fun r8 w8 q8 => ?_)
      obtain ⟨rfl, k8, hX⟩ := q8
      have kp := kp.tr k8
      refine J_lload dL_law_434 rfl ?_
      refine J_lcmp dL_law_436 ?_
      refine J_if_ne (tgt := 449) dL_law_437 (by decide) (fun h => absurd (lgc_eq (by rw [hbf]; unfold gS; rw [g1])) h) (fun h => ?_)
      refine J_aload_n dL_law_440 rfl rfl ?_
      refine K_hV (v := nI (gC _)) (kb := kb + 0) (sb := sb + 0) dL_law_441 YX8_undoCount kL_193 hX.rc (c_X8_undoCount hX) rfl rfl rfl (Nat.le_of_ble_eq_true rfl) (by decide) (fun w9 k9 hX => ?_)
      have kp := kp.tr k9
      refine J_iload dL_law_444 rfl ?_
      refine J_icmp_eq (tgt := 461) dL_law_446 (by decide) (fun h => ?_) (fun h => absurd (by rw [hch]; unfold gC; rw [g2]) h)
      refine J_iinc (v := nI (n + 1)) dL_law_461 rfl (nI_succ _).symm (by decide) rfl ?_
      refine J_goto (tgt := 28) dL_law_464 (by decide) ?_
      refine J_forget [true, true, true, true, true, true, false, false, false, false, false, false, false, false, false, false, false, false, false] ?_
      exact kk _ _ _ _ ⟨hX, by unfold gS; rw [g1]; exact hg.mono (by omega), kp.at hA ha nd_l, LI.k hI g1 g2, by omega⟩
    · skip
      refine J_icmp_gt (tgt := 451) dL_law_427 (by decide) (fun h => ?_) (fun h => absurd (Int32.not_lt.mp h) hlt)
      refine J_iinc (v := nI (made + 1)) dL_law_451 rfl (nI_succ _).symm (by decide) rfl ?_
      refine J_aload_n dL_law_454 rfl rfl ?_
      refine J_iload_n dL_law_455 rfl rfl ?_
      refine J_aload_n dL_law_456 rfl rfl ?_
      refine K_sc (kb := kb + 1) (sb := sb + 6) dL_law_457 YL_sum kL_189 (c_L_sum hX) rfl rfl (Nat.le_of_ble_eq_true rfl) (by decide) (fun r8 w8 q8 => ?_)
      obtain ⟨rfl, k8, hX⟩ := q8
      have kp := kp.tr k8
      have hA9 := kp.at hA ha nd_l
      refine K_lput dL_law_460 hA9 (by omega) (by decide) (fun w9 u9 => ?_)
      refine J_iinc (v := nI (n + 1)) dL_law_461 rfl (nI_succ _).symm (by decide) rfl ?_
      refine J_goto (tgt := 28) dL_law_464 (by decide) ?_
      refine J_forget [true, true, true, true, true, true, false, false, false, false, false, false, false, false, false, false, false, false, false] ?_
      exact J.widen (by omega) (by omega) (kk _ _ _ _ ⟨hX.up u9 ha, hwg.mono (by omega), u9.1, (LI.k hI g1 g2).push S', by omega⟩)
  refine J_iinc (v := nI (5 * (n + 1))) dL_law_390 rfl (nI_p5 n) (by decide) rfl ?_
  refine J_iload dL_law_393 rfl ?_
  refine J_if_eq (tgt := 421) dL_law_395 (by decide) (fun h => absurd h (by decide)) (fun h => ?_)
  refine J_aload_n dL_law_398 rfl rfl ?_
  refine J_aload_n dL_law_399 rfl rfl ?_
  refine J_iload dL_law_400 rfl ?_
  refine J_iload dL_law_402 rfl ?_
  refine J_iconst (v := nI 5) dL_law_404 (by decide) ?_
  refine K_irem (v := nI (n % 5)) dL_law_405 (nI_ne0 (by omega) (by omega)) (pk_rem (by omega) (by omega) (by omega)) ?_
  refine J_iconst (v := nI 4) dL_law_406 (by decide) ?_
  by_cases c5 : n % 5 = 4
  · refine J_icmp_ne (tgt := 414) dL_law_407 (by decide) (fun h => absurd (congrArg nI c5) h) (fun h => ?_)
    refine J_iconst (v := nI 1) dL_law_410 (by decide) ?_
    refine J_goto (tgt := 415) dL_law_411 (by decide) ?_
    refine K_sc (kb := kb + 401) (sb := sb + 2406) dL_law_415 YL_isWhole kL_217 (c_L_isWhole (al := true) hX hgx (by omega) (by omega)) rfl rfl (Nat.le_of_ble_eq_true rfl) (by decide) (fun r7 w7 q7 => ?_)
    obtain ⟨rfl, k7, hX⟩ := q7
    have kp : KP _ _ x := k7
    refine J_if_ne (tgt := 423) dL_law_418 (by decide) (fun h => ?_) (fun h => absurd h (by decide))
    exact fin _ kp hX
  · refine J_icmp_ne (tgt := 414) dL_law_407 (by decide) (fun h => ?_) (fun h => absurd (nI_inj (by omega) (by omega) h) c5)
    refine J_iconst (v := nI 0) dL_law_414 (by decide) ?_
    refine K_sc (kb := kb + 401) (sb := sb + 2406) dL_law_415 YL_isWhole kL_217 (c_L_isWhole (al := false) hX hgx (by omega) (by omega)) rfl rfl (Nat.le_of_ble_eq_true rfl) (by decide) (fun r7 w7 q7 => ?_)
    obtain ⟨rfl, k7, hX⟩ := q7
    have kp : KP _ _ x := k7
    refine J_if_ne (tgt := 423) dL_law_418 (by decide) (fun h => ?_) (fun h => absurd h (by decide))
    exact fin _ kp hX
set_option maxRecDepth 100000 in
theorem lw_D {x a made n kn t tk kb sb : Nat} {bf : Int64} {ch : Int32} {Q : Po} {w : Wd} {G : Gme} {f : Nat → Int64} (hX : RepX w x G) (hg : WG (gS G) (18300 * n)) (hn : n < 60) (hA : w.1 a = .inl (2, 80, .inr (.inl f))) (ha : a < x ∨ x + 126 ≤ a) (hI : KInv G f made) (hm : made ≤ n) (hkn : kn < 50) (ht : t ≤ sNt (gS G)) (htk : tk < 8) (hbf : bf = sumS (gS G)) (hch : ch = nI (gC G)) (kk : ∀ w1 G2 m2 (f2 : Nat → Int64), LI w1 x a (n + 1) m2 G2 f2 → J 60 mL_law 28 [some (.ref 3), some (.ref x), some (.ref a), some (.int (nI (m2))), some (.int (nI (5 * (n + 1)))), some (.int (nI (n + 1))), none, none, none, none, none, none, none, none, none, none, none, none, none] [] w1 kb sb Q) : J 60 mL_law 153 [some (.ref 3), some (.ref x), some (.ref a), some (.int (nI made)), some (.int (nI (5 * n))), some (.int (nI n)), some (.long bf), none, some (.int ch), some (.int (nI kn)), some (.int (nI t)), some (.int (nI tk)), none, none, none, none, none, none, none] [] w (kb + 9460) (sb + 62760) Q := by
  have hW := hg.1
  have hnt := hW.nt
  have kp : KP w w x := KP.rf w x
  by_cases c1 : t < sNt (gS G)
  · skip
    refine J_aload_n dL_law_153 rfl rfl ?_
    refine J_iload dL_law_154 rfl ?_
    refine K_h (v := oV (aT (gS G) t)) (kb := kb + 9459) (sb := sb + 62754) dL_law_156 rfl YL_ticksUntilArrival kL_203 (h_ticksUntilArrival hX c1) rfl rfl rfl (Nat.le_of_ble_eq_true rfl) (by decide) (fun w1 k1 hX => ?_)
    have kp := kp.tr k1
    refine J_istore dL_law_159 (by decide) rfl ?_
    refine J_aload_n dL_law_161 rfl rfl ?_
    refine K_hV (v := sAr (gS G)) (kb := kb + 9458) (sb := sb + 62748) dL_law_162 YX8_arrivals kL_205 hX.rc (c_X8_arrivals hX) rfl rfl rfl (Nat.le_of_ble_eq_true rfl) (by decide) (fun w2 k2 hX => ?_)
    have kp := kp.tr k2
    refine J_istore dL_law_165 (by decide) rfl ?_
    refine J_aload_n dL_law_167 rfl rfl ?_
    refine K_hV (v := sTk (gS G)) (kb := kb + 9457) (sb := sb + 62742) dL_law_168 YX8_ticks kL_208 hX.rc (c_X8_ticks hX) rfl rfl rfl (Nat.le_of_ble_eq_true rfl) (by decide) (fun w3 k3 hX => ?_)
    have kp := kp.tr k3
    refine J_istore dL_law_171 (by decide) rfl ?_
    refine J_aload_n dL_law_173 rfl rfl ?_
    refine J_iload dL_law_174 rfl ?_
    refine K_h (v := oV (sGo (gS G) t)) (kb := kb + 9456) (sb := sb + 62736) dL_law_176 rfl YL_goal kL_211 (h_goal hX c1) rfl rfl rfl (Nat.le_of_ble_eq_true rfl) (by decide) (fun w4 k4 hX => ?_)
    have kp := kp.tr k4
    refine J_istore dL_law_179 (by decide) rfl ?_
    refine J_aload_n dL_law_181 rfl rfl ?_
    refine J_iload dL_law_182 rfl ?_
    refine J_iload dL_law_184 rfl ?_
    refine J_aload_n dL_law_186 rfl rfl ?_
    refine J_iload dL_law_187 rfl ?_
    refine J_iload dL_law_189 rfl ?_
    refine K_sc (kb := kb + 9406) (sb := sb + 62436) dL_law_191 YL_does kL_213 (c_L_does hX hg (by omega) hkn ht htk) rfl rfl (Nat.le_of_ble_eq_true rfl) (by decide) (fun r5 w5 q5 => ?_)
    obtain ⟨G', v, rfl, k5, hX, hdp, hps⟩ := q5
    have kp := kp.tr k5
    refine J_istore dL_law_194 (by decide) rfl ?_
    refine lw_E (kb := kb + 9401) (sb := sb + 62406) hX hW hkn htk hps rfl rfl (Or.inl ⟨c1, rfl, rfl⟩) (fun ip w6 k6 hX => ?_)
    exact lw_G hX hg hn ((kp.tr k6).at hA ha nd_l) ha hI hm hdp hbf hch kk
  · skip
    refine J_aload_n dL_law_153 rfl rfl ?_
    refine J_iload dL_law_154 rfl ?_
    refine K_h (v := (-77)) (kb := kb + 9459) (sb := sb + 62754) dL_law_156 rfl YL_ticksUntilArrival kL_203 (h_ticksUntilArrival_no hX (by omega) (by omega)) rfl rfl rfl (Nat.le_of_ble_eq_true rfl) (by decide) (fun w1 k1 hX => ?_)
    have kp := kp.tr k1
    refine J_istore dL_law_159 (by decide) rfl ?_
    refine J_aload_n dL_law_161 rfl rfl ?_
    refine K_hV (v := sAr (gS G)) (kb := kb + 9458) (sb := sb + 62748) dL_law_162 YX8_arrivals kL_205 hX.rc (c_X8_arrivals hX) rfl rfl rfl (Nat.le_of_ble_eq_true rfl) (by decide) (fun w2 k2 hX => ?_)
    have kp := kp.tr k2
    refine J_istore dL_law_165 (by decide) rfl ?_
    refine J_aload_n dL_law_167 rfl rfl ?_
    refine K_hV (v := sTk (gS G)) (kb := kb + 9457) (sb := sb + 62742) dL_law_168 YX8_ticks kL_208 hX.rc (c_X8_ticks hX) rfl rfl rfl (Nat.le_of_ble_eq_true rfl) (by decide) (fun w3 k3 hX => ?_)
    have kp := kp.tr k3
    refine J_istore dL_law_171 (by decide) rfl ?_
    refine J_aload_n dL_law_173 rfl rfl ?_
    refine J_iload dL_law_174 rfl ?_
    refine K_h (v := (-77)) (kb := kb + 9456) (sb := sb + 62736) dL_law_176 rfl YL_goal kL_211 (h_goal_no hX (by omega) (by omega)) rfl rfl rfl (Nat.le_of_ble_eq_true rfl) (by decide) (fun w4 k4 hX => ?_)
    have kp := kp.tr k4
    refine J_istore dL_law_179 (by decide) rfl ?_
    refine J_aload_n dL_law_181 rfl rfl ?_
    refine J_iload dL_law_182 rfl ?_
    refine J_iload dL_law_184 rfl ?_
    refine J_aload_n dL_law_186 rfl rfl ?_
    refine J_iload dL_law_187 rfl ?_
    refine J_iload dL_law_189 rfl ?_
    refine K_sc (kb := kb + 9406) (sb := sb + 62436) dL_law_191 YL_does kL_213 (c_L_does hX hg (by omega) hkn ht htk) rfl rfl (Nat.le_of_ble_eq_true rfl) (by decide) (fun r5 w5 q5 => ?_)
    obtain ⟨G', v, rfl, k5, hX, hdp, hps⟩ := q5
    have kp := kp.tr k5
    refine J_istore dL_law_194 (by decide) rfl ?_
    refine lw_E (kb := kb + 9401) (sb := sb + 62406) hX hW hkn htk hps rfl rfl (Or.inr ⟨rfl, rfl⟩) (fun ip w6 k6 hX => ?_)
    exact lw_G hX hg hn ((kp.tr k6).at hA ha nd_l) ha hI hm hdp hbf hch kk
set_option maxRecDepth 100000 in
theorem lw_C {x a made n kn kb sb : Nat} {bf : Int64} {ch : Int32} {Q : Po} {w : Wd} {G : Gme} {f : Nat → Int64} (hX : RepX w x G) (hg : WG (gS G) (18300 * n)) (hn : n < 60) (hA : w.1 a = .inl (2, 80, .inr (.inl f))) (ha : a < x ∨ x + 126 ≤ a) (hI : KInv G f made) (hm : made ≤ n) (hkn : kn < 50) (hbf : bf = sumS (gS G)) (hch : ch = nI (gC G)) (kk : ∀ w1 G2 m2 (f2 : Nat → Int64), LI w1 x a (n + 1) m2 G2 f2 → J 60 mL_law 28 [some (.ref 3), some (.ref x), some (.ref a), some (.int (nI (m2))), some (.int (nI (5 * (n + 1)))), some (.int (nI (n + 1))), none, none, none, none, none, none, none, none, none, none, none, none, none] [] w1 kb sb Q) : J 60 mL_law 104 [some (.ref 3), some (.ref x), some (.ref a), some (.int (nI made)), some (.int (nI (5 * n))), some (.int (nI n)), some (.long bf), none, some (.int ch), some (.int (nI kn)), none, none, none, none, none, none, none, none, none] [] w (kb + 9462) (sb + 62772) Q := by
  have hnt := hg.1.nt
  have fin : ∀ e, e ≤ 1 → 1 ≤ sNt (gS G) + e → ∀ w1, KP w w1 x → RepX w1 x G → J 60 mL_law 136 [some (.ref 3), some (.ref x), some (.ref a), some (.int (nI made)), some (.int (nI (5 * n))), some (.int (nI n)), some (.long bf), none, some (.int ch), some (.int (nI kn)), none, none, none, none, none, none, none, none, none] [.int (nI (sNt (gS G) + e)), .int (nI (5 * n + 1)), .ref 3] w1 (kb + 9460) (sb + 62760) Q := by
    intro e he h1 w1 kp hX
    have hA := kp.at hA ha nd_l
    refine K_sc (kb := kb + 9460) (sb := sb + 62760) dL_law_136 YL_pick kL_196 (c_L_pick (by omega) (by omega) (by omega)) rfl rfl (Nat.le_of_ble_eq_true rfl) (by decide) (fun r8 w8 q8 => ?_)
    obtain ⟨rfl, t, ht, rfl⟩ := q8
    refine J_istore dL_law_139 (by decide) rfl ?_
    refine J_aload_n dL_law_141 rfl rfl ?_
    refine J_iload dL_law_142 rfl ?_
    refine J_iconst (v := nI 2) dL_law_144 (by decide) ?_
    refine K_iadd (v := nI (5 * n + 2)) dL_law_145 (nI_add _ _) ?_
    refine J_bipush (v := nI 8) dL_law_146 (by decide) ?_
    refine K_sc (kb := kb + 9460) (sb := sb + 62760) dL_law_148 YL_pick kL_196 (c_L_pick (by omega) (by omega) (by omega)) rfl rfl (Nat.le_of_ble_eq_true rfl) (by decide) (fun r9 w9 q9 => ?_)
    obtain ⟨rfl, tk, htk, rfl⟩ := q9
    refine J_istore dL_law_151 (by decide) rfl ?_
    exact lw_D hX hg hn hA ha hI hm hkn (by omega) htk hbf hch kk
  refine J_aload_n dL_law_104 rfl rfl ?_
  refine J_iload dL_law_105 rfl ?_
  refine J_iconst (v := nI 1) dL_law_107 (by decide) ?_
  refine K_iadd (v := nI (5 * n + 1)) dL_law_108 (nI_add _ _) ?_
  refine J_aload_n dL_law_109 rfl rfl ?_
  refine K_hV (v := nI (sNt (gS G))) (kb := kb + 9461) (sb := sb + 62766) dL_law_110 YX8_trainCount kL_200 hX.rc (c_X8_trainCount hX) rfl rfl rfl (Nat.le_of_ble_eq_true rfl) (by decide) (fun w1 kp hX => ?_)
  refine J_iload dL_law_113 rfl ?_
  refine J_bipush (v := nI 13) dL_law_115 (by decide) ?_
  refine K_irem (v := nI (n % 13)) dL_law_117 (nI_ne0 (by omega) (by omega)) (pk_rem (by omega) (by omega) (by omega)) ?_
  refine J_bipush (v := nI 12) dL_law_118 (by decide) ?_
  by_cases c1 : n % 13 = 12
  · refine J_icmp_eq (tgt := 130) dL_law_120 (by decide) (fun h => ?_) (fun h => absurd (congrArg nI c1) h)
    refine J_iconst (v := nI 1) dL_law_130 (by decide) ?_
    refine J_goto (tgt := 135) dL_law_131 (by decide) ?_
    refine K_iadd (v := nI (sNt (gS G) + 1)) dL_law_135 (nI_add _ _) ?_
    exact J.widen (by omega) (by omega) (fin 1 (by omega) (by omega) _ kp hX)
  · refine J_icmp_eq (tgt := 130) dL_law_120 (by decide) (fun h => absurd (nI_inj (by omega) (by omega) h) c1) (fun h => ?_)
    refine J_aload_n dL_law_123 rfl rfl ?_
    refine K_hV (v := nI (sNt (gS G))) (kb := kb + 9460) (sb := sb + 62760) dL_law_124 YX8_trainCount kL_200 hX.rc (c_X8_trainCount hX) rfl rfl rfl (Nat.le_of_ble_eq_true rfl) (by decide) (fun w2 k2 hX => ?_)
    have kp := kp.tr k2
    by_cases c2 : sNt (gS G) = 0
    · refine J_if_ne (tgt := 134) dL_law_127 (by decide) (fun h => absurd (congrArg nI c2) h) (fun h => ?_)
      refine J_iconst (v := nI 1) dL_law_130 (by decide) ?_
      refine J_goto (tgt := 135) dL_law_131 (by decide) ?_
      refine K_iadd (v := nI (sNt (gS G) + 1)) dL_law_135 (nI_add _ _) ?_
      exact fin 1 (by omega) (by omega) _ kp hX
    · refine J_if_ne (tgt := 134) dL_law_127 (by decide) (fun h => ?_) (fun h => absurd (nI_inj (b := 0) (by omega) (by omega) h) c2)
      refine J_iconst (v := nI 0) dL_law_134 (by decide) ?_
      refine K_iadd (v := nI (sNt (gS G) + 0)) dL_law_135 (nI_add _ _) ?_
      exact fin 0 (by omega) (by omega) _ kp hX
set_option maxRecDepth 100000 in
theorem lw_B {x a made n kb sb : Nat} {bf : Int64} {ch : Int32} {Q : Po} {w : Wd} {G : Gme} {f : Nat → Int64} (hX : RepX w x G) (hg : WG (gS G) (18300 * n)) (hn : n < 60) (hA : w.1 a = .inl (2, 80, .inr (.inl f))) (ha : a < x ∨ x + 126 ≤ a) (hI : KInv G f made) (hm : made ≤ n) (hbf : bf = sumS (gS G)) (hch : ch = nI (gC G)) (kk : ∀ w1 G2 m2 (f2 : Nat → Int64), LI w1 x a (n + 1) m2 G2 f2 → J 60 mL_law 28 [some (.ref 3), some (.ref x), some (.ref a), some (.int (nI (m2))), some (.int (nI (5 * (n + 1)))), some (.int (nI (n + 1))), none, none, none, none, none, none, none, none, none, none, none, none, none] [] w1 kb sb Q) : J 60 mL_law 47 [some (.ref 3), some (.ref x), some (.ref a), some (.int (nI made)), some (.int (nI (5 * n))), some (.int (nI n)), some (.long bf), none, some (.int ch), none, none, none, none, none, none, none, none, none, none] [] w (kb + 9462) (sb + 62772) Q := by
  have fin : ∀ kn, kn < 50 → J 60 mL_law 102 [some (.ref 3), some (.ref x), some (.ref a), some (.int (nI made)), some (.int (nI (5 * n))), some (.int (nI n)), some (.long bf), none, some (.int ch), none, none, none, none, none, none, none, none, none, none] [.int (nI kn)] w (kb + 9462) (sb + 62772) Q := by
    intro kn hkn
    refine J_istore dL_law_102 (by decide) rfl ?_
    exact lw_C hX hg hn hA ha hI hm hkn hbf hch kk
  refine J_iload dL_law_47 rfl ?_
  refine J_bipush (v := nI 6) dL_law_49 (by decide) ?_
  by_cases b0 : n < 6
  · refine J_icmp_ge (tgt := 58) dL_law_51 (by decide) (fun h => absurd ((nI_leI (by omega) (by omega)).mp h) (by omega)) (fun h => ?_)
    refine J_iconst (v := nI 0) dL_law_54 (by decide) ?_
    refine J_goto (tgt := 102) dL_law_55 (by decide) ?_
    exact fin 0 (by decide)
  · refine J_icmp_ge (tgt := 58) dL_law_51 (by decide) (fun h => ?_) (fun h => absurd ((nI_leI (by omega) (by omega)).mpr (by omega)) h)
    refine J_iload dL_law_58 rfl ?_
    refine J_bipush (v := nI 12) dL_law_60 (by decide) ?_
    by_cases b1 : n < 12
    · refine J_icmp_ge (tgt := 70) dL_law_62 (by decide) (fun h => absurd ((nI_leI (by omega) (by omega)).mp h) (by omega)) (fun h => ?_)
      refine J_bipush (v := nI 6) dL_law_65 (by decide) ?_
      refine J_goto (tgt := 102) dL_law_67 (by decide) ?_
      exact fin 6 (by decide)
    · refine J_icmp_ge (tgt := 70) dL_law_62 (by decide) (fun h => ?_) (fun h => absurd ((nI_leI (by omega) (by omega)).mpr (by omega)) h)
      refine J_iload dL_law_70 rfl ?_
      refine J_bipush (v := nI 14) dL_law_72 (by decide) ?_
      by_cases b2 : n < 14
      · refine J_icmp_ge (tgt := 82) dL_law_74 (by decide) (fun h => absurd ((nI_leI (by omega) (by omega)).mp h) (by omega)) (fun h => ?_)
        refine J_bipush (v := nI 14) dL_law_77 (by decide) ?_
        refine J_goto (tgt := 102) dL_law_79 (by decide) ?_
        exact fin 14 (by decide)
      · refine J_icmp_ge (tgt := 82) dL_law_74 (by decide) (fun h => ?_) (fun h => absurd ((nI_leI (by omega) (by omega)).mpr (by omega)) h)
        refine J_iload dL_law_82 rfl ?_
        refine J_bipush (v := nI 16) dL_law_84 (by decide) ?_
        by_cases b3 : n < 16
        · refine J_icmp_ge (tgt := 94) dL_law_86 (by decide) (fun h => absurd ((nI_leI (by omega) (by omega)).mp h) (by omega)) (fun h => ?_)
          refine J_bipush (v := nI 18) dL_law_89 (by decide) ?_
          refine J_goto (tgt := 102) dL_law_91 (by decide) ?_
          exact fin 18 (by decide)
        · refine J_icmp_ge (tgt := 94) dL_law_86 (by decide) (fun h => ?_) (fun h => absurd ((nI_leI (by omega) (by omega)).mpr (by omega)) h)
          refine J_aload_n dL_law_94 rfl rfl ?_
          refine J_iload dL_law_95 rfl ?_
          refine J_bipush (v := nI 50) dL_law_97 (by decide) ?_
          refine K_sc (kb := kb + 9462) (sb := sb + 62772) dL_law_99 YL_pick kL_196 (c_L_pick (by omega) (by omega) (by omega)) rfl rfl (Nat.le_of_ble_eq_true rfl) (by decide) (fun r8 w8 q8 => ?_)
          obtain ⟨rfl, kn, hkn, rfl⟩ := q8
          exact fin kn hkn
set_option maxRecDepth 100000 in
theorem lw_A {x a made n kb sb : Nat} {Q : Po} {w : Wd} {G : Gme} {f : Nat → Int64} (hn : n < 60) (ha : a < x ∨ x + 126 ≤ a) (h : LI w x a n made G f) (kk : ∀ w1 G2 m2 (f2 : Nat → Int64), LI w1 x a (n + 1) m2 G2 f2 → J 60 mL_law 28 [some (.ref 3), some (.ref x), some (.ref a), some (.int (nI (m2))), some (.int (nI (5 * (n + 1)))), some (.int (nI (n + 1))), none, none, none, none, none, none, none, none, none, none, none, none, none] [] w1 kb sb Q) : J 60 mL_law 28 [some (.ref 3), some (.ref x), some (.ref a), some (.int (nI (made))), some (.int (nI (5 * (n)))), some (.int (nI (n))), none, none, none, none, none, none, none, none, none, none, none, none, none] [] w (kb + 9863) (sb + 65178) Q := by
  obtain ⟨hX, hg, hA, hI, hm⟩ := h
  refine J_iload dL_law_28 rfl ?_
  refine J_bipush (v := nI 60) dL_law_30 (by decide) ?_
  refine J_icmp_ge (tgt := 467) dL_law_32 (by decide) (fun h => absurd ((nI_leI (by omega) (by omega)).mp h) (by omega)) (fun h => ?_)
  refine J_aload_n dL_law_35 rfl rfl ?_
  refine K_sc (kb := kb + 9463) (sb := sb + 62778) dL_law_36 YL_sum kL_189 (c_L_sum hX) rfl rfl (Nat.le_of_ble_eq_true rfl) (by decide) (fun r1 w1 q1 => ?_)
  obtain ⟨rfl, kp, hX⟩ := q1
  refine J_lstore dL_law_39 (by decide) rfl ?_
  refine J_aload_n dL_law_41 rfl rfl ?_
  refine K_hV (v := nI (gC G)) (kb := kb + 9462) (sb := sb + 62772) dL_law_42 YX8_undoCount kL_193 hX.rc (c_X8_undoCount hX) rfl rfl rfl (Nat.le_of_ble_eq_true rfl) (by decide) (fun w2 k2 hX => ?_)
  have kp := kp.tr k2
  refine J_istore dL_law_45 (by decide) rfl ?_
  exact lw_B hX hg hn (kp.at hA ha nd_l) ha hI hm rfl rfl kk
set_option maxRecDepth 100000 in
theorem lw_loop {x a : Nat} {Q : Po} (hQ : ∀ w : Wd, Q (.inl (some (.int 1))) w) (ha : a < x ∨ x + 126 ≤ a) : ∀ (j n : Nat) (w : Wd) (G : Gme) (made : Nat) (f : Nat → Int64), n + j = 60 → LI w x a n made G f → J 60 mL_law 28 [some (.ref 3), some (.ref x), some (.ref a), some (.int (nI (made))), some (.int (nI (5 * (n)))), some (.int (nI (n))), none, none, none, none, none, none, none, none, none, none, none, none, none] [] w (9863 * j + 4500) (65178 * j + 27000) Q := by
  intro j
  induction j with
  | zero =>
    intro n w G made f hn h
    obtain ⟨hX, hg, hA, hI, hm⟩ := h
    refine J.widen (kb' := 0 + 4500) (sb' := 0 + 27000) (by omega) (by omega) ?_
    refine J_iload dL_law_28 rfl ?_
    refine J_bipush (v := nI 60) dL_law_30 (by decide) ?_
    refine J_icmp_ge (tgt := 467) dL_law_32 (by decide) (fun h => ?_) (fun h => absurd ((nI_leI (by omega) (by omega)).mpr (by omega)) h)
    refine J_aload_n dL_law_467 rfl rfl ?_
    refine J_aload_n dL_law_468 rfl rfl ?_
    refine J_iload_n dL_law_469 rfl rfl ?_
    refine K_sc (kb := 0) (sb := 0) dL_law_470 YL_isKept kL_221 (c_L_isKept hX hA ha hI (by omega)) rfl rfl (Nat.le_of_ble_eq_true rfl) (by decide) (fun r1 w1 q1 => ?_)
    subst q1
    exact J_ireturn dL_law_473 rfl narB1 (hQ _)
  | succ j ih =>
    intro n w G made f hn h
    refine J.widen (kb' := (9863 * j + 4500) + 9863) (sb' := (65178 * j + 27000) + 65178) (by omega) (by omega) ?_
    exact lw_A (by omega) ha h (fun w1 G2 m2 f2 h2 => ih (n + 1) w1 G2 m2 f2 (by omega) h2)
end JLOOP

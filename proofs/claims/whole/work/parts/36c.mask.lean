/-! THE MODEL: its questions -/
section JMASK
theorem c_X9_length {w : Wd} {m : Nat} {G : Gme} {th : Nat} (hM : RepM w m G th) (y : Int32) : MC 5 mX9_length 0 0 [.ref m, .int y] w (GM w m [1] (gQ G (onI (sNb (gS G)) y (fun i => (0, nI (sLen (gS G) i)))))) := by
  obtain ⟨x, f2, f3, f4, f5, f6, f7, f8, hA, ⟨m2, m3, m4, m5, m6, m7, m8⟩, hx0, hRx, hRd⟩ := id hM
  obtain ⟨x6, x7, x13, x14, x15, x16⟩ := id hRx
  obtain ⟨hV, hP, hT, hO, ⟨hb8, hb60, hb14⟩, hE, hF⟩ := id hRd
  obtain ⟨f, g, h, mO, mS, mF, mK, hfit⟩ := id hA
  have hwf := hfit.2.2.2.2
  have hnb := hwf.nb
  have hnt := hwf.nt
  refine MC_j pnX9 rfl rfl rfl (Or.inr (fun E w h => RP_no E w h)) ?_
  show J 5 mX9_length 0 [some (.ref m), some (.int y)] [] w 0 0 _
  cases e0 : vi (sNb (gS G)) y with
  | none =>
    refine J_aload_n dX9_length_0 rfl rfl ?_
    refine J_iload_n dX9_length_1 rfl rfl ?_
    refine J_iconst (v := nI 0) dX9_length_2 (by decide) ?_
    refine K_callVp dX9_length_3 YX9_askedBlock kX9_148 (rc_of mO rfl) (c_X9_askedBlock_no mO mS hfit e0 0) rfl rfl (Nat.le_of_ble_eq_true rfl) (by decide) (fun v3 w3 q3 => ?_)
    obtain ⟨rfl, u3⟩ := q3
    have mO : w3.1 m = mCell m (va_up x 0 (nI 1)) := u3.1
    have mS := (u3.2.1 _ (by omega)).trans mS
    have mF := (u3.2.1 _ (by omega)).trans mF
    have mK := (u3.2.1 _ (by omega)).trans mK
    have m2 := (u3.2.1 _ (by omega)).trans m2
    have m3 := (u3.2.1 _ (by omega)).trans m3
    have m4 := (u3.2.1 _ (by omega)).trans m4
    have m5 := (u3.2.1 _ (by omega)).trans m5
    have m6 := (u3.2.1 _ (by omega)).trans m6
    have m7 := (u3.2.1 _ (by omega)).trans m7
    have m8 := (u3.2.1 _ (by omega)).trans m8
    exact J_ireturn dX9_length_6 rfl rfl (GM_of (c := 1) (v := 0) (G' := G) (th := 1) (gQ_eq (onI_no e0)) (fun z => absurd z (by decide)) ((Fr.rf w m (m + 11)).up u3 (by omega) (by omega)) (by decide) ⟨va_up x 0 (nI 1), _, _, _, _, _, _, _, ⟨_, _, _, mO, mS, mF, mK, hfit⟩, ⟨m2, m3, m4, m5, m6, m7, m8⟩, (up_s _ _ _), ⟨((up_n _ _ (by decide)).trans x6), ((up_n _ _ (by decide)).trans x7), ((up_n _ _ (by decide)).trans x13), ((up_n _ _ (by decide)).trans x14), ((up_n _ _ (by decide)).trans x15), ((up_n _ _ (by decide)).trans x16)⟩, hRd⟩)
  | some i =>
    obtain ⟨hi, rfl⟩ := vi_some (by omega) e0
    refine J_aload_n dX9_length_0 rfl rfl ?_
    refine J_iload_n dX9_length_1 rfl rfl ?_
    refine J_iconst (v := nI 0) dX9_length_2 (by decide) ?_
    refine K_callVp dX9_length_3 YX9_askedBlock kX9_148 (rc_of mO rfl) (c_X9_askedBlock_ok mO mS hfit hi (k := 0) (by decide)) rfl rfl (Nat.le_of_ble_eq_true rfl) (by decide) (fun v3 w3 q3 => ?_)
    obtain ⟨rfl, u3⟩ := q3
    have mO : w3.1 m = mCell m (va_up x 0 (nI 0)) := u3.1
    have mS := (u3.2.1 _ (by omega)).trans mS
    have mF := (u3.2.1 _ (by omega)).trans mF
    have mK := (u3.2.1 _ (by omega)).trans mK
    have m2 := (u3.2.1 _ (by omega)).trans m2
    have m3 := (u3.2.1 _ (by omega)).trans m3
    have m4 := (u3.2.1 _ (by omega)).trans m4
    have m5 := (u3.2.1 _ (by omega)).trans m5
    have m6 := (u3.2.1 _ (by omega)).trans m6
    have m7 := (u3.2.1 _ (by omega)).trans m7
    have m8 := (u3.2.1 _ (by omega)).trans m8
    exact J_ireturn dX9_length_6 rfl rfl (GM_of (c := 0) (v := nI (sLen (gS G) i)) (G' := G) (th := 0) (gQ_eq (onI_ok e0)) (fun _ => (hfit.2.1 i hi).1) ((Fr.rf w m (m + 11)).up u3 (by omega) (by omega)) (by decide) ⟨va_up x 0 (nI 0), _, _, _, _, _, _, _, ⟨_, _, _, mO, mS, mF, mK, hfit⟩, ⟨m2, m3, m4, m5, m6, m7, m8⟩, (up_s _ _ _), ⟨((up_n _ _ (by decide)).trans x6), ((up_n _ _ (by decide)).trans x7), ((up_n _ _ (by decide)).trans x13), ((up_n _ _ (by decide)).trans x14), ((up_n _ _ (by decide)).trans x15), ((up_n _ _ (by decide)).trans x16)⟩, hRd⟩)

theorem c_X9_isCushion {w : Wd} {m : Nat} {G : Gme} {th : Nat} (hM : RepM w m G th) (y : Int32) : MC 5 mX9_isCushion 0 0 [.ref m, .int y] w (GM w m [1] (gQ G (onI (sNb (gS G)) y (fun i => (0, b2i (sCu (gS G) i)))))) := by
  obtain ⟨x, f2, f3, f4, f5, f6, f7, f8, hA, ⟨m2, m3, m4, m5, m6, m7, m8⟩, hx0, hRx, hRd⟩ := id hM
  obtain ⟨x6, x7, x13, x14, x15, x16⟩ := id hRx
  obtain ⟨hV, hP, hT, hO, ⟨hb8, hb60, hb14⟩, hE, hF⟩ := id hRd
  obtain ⟨f, g, h, mO, mS, mF, mK, hfit⟩ := id hA
  have hwf := hfit.2.2.2.2
  have hnb := hwf.nb
  have hnt := hwf.nt
  refine MC_j pnX9 rfl rfl rfl (Or.inr (fun E w h => RP_no E w h)) ?_
  show J 5 mX9_isCushion 0 [some (.ref m), some (.int y)] [] w 0 0 _
  cases e0 : vi (sNb (gS G)) y with
  | none =>
    refine J_aload_n dX9_isCushion_0 rfl rfl ?_
    refine J_iload_n dX9_isCushion_1 rfl rfl ?_
    refine J_iconst (v := nI 1) dX9_isCushion_2 (by decide) ?_
    refine K_callVp dX9_isCushion_3 YX9_askedBlock kX9_148 (rc_of mO rfl) (c_X9_askedBlock_no mO mS hfit e0 1) rfl rfl (Nat.le_of_ble_eq_true rfl) (by decide) (fun v3 w3 q3 => ?_)
    obtain ⟨rfl, u3⟩ := q3
    have mO : w3.1 m = mCell m (va_up x 0 (nI 1)) := u3.1
    have mS := (u3.2.1 _ (by omega)).trans mS
    have mF := (u3.2.1 _ (by omega)).trans mF
    have mK := (u3.2.1 _ (by omega)).trans mK
    have m2 := (u3.2.1 _ (by omega)).trans m2
    have m3 := (u3.2.1 _ (by omega)).trans m3
    have m4 := (u3.2.1 _ (by omega)).trans m4
    have m5 := (u3.2.1 _ (by omega)).trans m5
    have m6 := (u3.2.1 _ (by omega)).trans m6
    have m7 := (u3.2.1 _ (by omega)).trans m7
    have m8 := (u3.2.1 _ (by omega)).trans m8
    refine J_iconst (v := nI 1) dX9_isCushion_6 (by decide) ?_
    refine J_icmp_ne (tgt := 14) dX9_isCushion_7 (by decide) (fun h7 => ?_) (fun h7 => absurd h7 (by decide))
    refine J_iconst (v := nI 0) dX9_isCushion_14 (by decide) ?_
    exact J_ireturn dX9_isCushion_15 rfl rfl (GM_of (c := 1) (v := 0) (G' := G) (th := 1) (gQ_eq (onI_no e0)) (fun z => absurd z (by decide)) ((Fr.rf w m (m + 11)).up u3 (by omega) (by omega)) (by decide) ⟨va_up x 0 (nI 1), _, _, _, _, _, _, _, ⟨_, _, _, mO, mS, mF, mK, hfit⟩, ⟨m2, m3, m4, m5, m6, m7, m8⟩, (up_s _ _ _), ⟨((up_n _ _ (by decide)).trans x6), ((up_n _ _ (by decide)).trans x7), ((up_n _ _ (by decide)).trans x13), ((up_n _ _ (by decide)).trans x14), ((up_n _ _ (by decide)).trans x15), ((up_n _ _ (by decide)).trans x16)⟩, hRd⟩)
  | some i =>
    obtain ⟨hi, rfl⟩ := vi_some (by omega) e0
    refine J_aload_n dX9_isCushion_0 rfl rfl ?_
    refine J_iload_n dX9_isCushion_1 rfl rfl ?_
    refine J_iconst (v := nI 1) dX9_isCushion_2 (by decide) ?_
    refine K_callVp dX9_isCushion_3 YX9_askedBlock kX9_148 (rc_of mO rfl) (c_X9_askedBlock_ok mO mS hfit hi (k := 1) (by decide)) rfl rfl (Nat.le_of_ble_eq_true rfl) (by decide) (fun v3 w3 q3 => ?_)
    obtain ⟨rfl, u3⟩ := q3
    have mO : w3.1 m = mCell m (va_up x 0 (nI 0)) := u3.1
    have mS := (u3.2.1 _ (by omega)).trans mS
    have mF := (u3.2.1 _ (by omega)).trans mF
    have mK := (u3.2.1 _ (by omega)).trans mK
    have m2 := (u3.2.1 _ (by omega)).trans m2
    have m3 := (u3.2.1 _ (by omega)).trans m3
    have m4 := (u3.2.1 _ (by omega)).trans m4
    have m5 := (u3.2.1 _ (by omega)).trans m5
    have m6 := (u3.2.1 _ (by omega)).trans m6
    have m7 := (u3.2.1 _ (by omega)).trans m7
    have m8 := (u3.2.1 _ (by omega)).trans m8
    refine J_iconst (v := nI 1) dX9_isCushion_6 (by decide) ?_
    rw [(hfit.2.1 i hi).2.1]
    refine J_icmp_ne (tgt := 14) dX9_isCushion_7 (by decide) (fun h7 => ?_) (fun h7 => ?_)
    · skip
      have e7 : sCu (gS G) i = false := b2i_n1 h7
      refine J_iconst (v := nI 0) dX9_isCushion_14 (by decide) ?_
      exact J_ireturn dX9_isCushion_15 rfl rfl (GM_of (c := 0) (v := b2i (sCu (gS G) i)) (G' := G) (th := 0) (gQ_eq (onI_ok e0)) (fun _ => by rw [e7]; rfl) ((Fr.rf w m (m + 11)).up u3 (by omega) (by omega)) (by decide) ⟨va_up x 0 (nI 0), _, _, _, _, _, _, _, ⟨_, _, _, mO, mS, mF, mK, hfit⟩, ⟨m2, m3, m4, m5, m6, m7, m8⟩, (up_s _ _ _), ⟨((up_n _ _ (by decide)).trans x6), ((up_n _ _ (by decide)).trans x7), ((up_n _ _ (by decide)).trans x13), ((up_n _ _ (by decide)).trans x14), ((up_n _ _ (by decide)).trans x15), ((up_n _ _ (by decide)).trans x16)⟩, hRd⟩)
    · skip
      have e7 : sCu (gS G) i = true := b2i_1.mp h7
      refine J_iconst (v := nI 1) dX9_isCushion_10 (by decide) ?_
      refine J_goto (tgt := 15) dX9_isCushion_11 (by decide) ?_
      exact J_ireturn dX9_isCushion_15 rfl rfl (GM_of (c := 0) (v := b2i (sCu (gS G) i)) (G' := G) (th := 0) (gQ_eq (onI_ok e0)) (fun _ => by rw [e7]; rfl) ((Fr.rf w m (m + 11)).up u3 (by omega) (by omega)) (by decide) ⟨va_up x 0 (nI 0), _, _, _, _, _, _, _, ⟨_, _, _, mO, mS, mF, mK, hfit⟩, ⟨m2, m3, m4, m5, m6, m7, m8⟩, (up_s _ _ _), ⟨((up_n _ _ (by decide)).trans x6), ((up_n _ _ (by decide)).trans x7), ((up_n _ _ (by decide)).trans x13), ((up_n _ _ (by decide)).trans x14), ((up_n _ _ (by decide)).trans x15), ((up_n _ _ (by decide)).trans x16)⟩, hRd⟩)

theorem c_X9_hasCat {w : Wd} {m : Nat} {G : Gme} {th : Nat} (hM : RepM w m G th) (y : Int32) : MC 5 mX9_hasCat 0 0 [.ref m, .int y] w (GM w m [1] (gQ G (onI (sNb (gS G)) y (fun i => (0, b2i (sCa (gS G) i)))))) := by
  obtain ⟨x, f2, f3, f4, f5, f6, f7, f8, hA, ⟨m2, m3, m4, m5, m6, m7, m8⟩, hx0, hRx, hRd⟩ := id hM
  obtain ⟨x6, x7, x13, x14, x15, x16⟩ := id hRx
  obtain ⟨hV, hP, hT, hO, ⟨hb8, hb60, hb14⟩, hE, hF⟩ := id hRd
  obtain ⟨f, g, h, mO, mS, mF, mK, hfit⟩ := id hA
  have hwf := hfit.2.2.2.2
  have hnb := hwf.nb
  have hnt := hwf.nt
  refine MC_j pnX9 rfl rfl rfl (Or.inr (fun E w h => RP_no E w h)) ?_
  show J 5 mX9_hasCat 0 [some (.ref m), some (.int y)] [] w 0 0 _
  cases e0 : vi (sNb (gS G)) y with
  | none =>
    refine J_aload_n dX9_hasCat_0 rfl rfl ?_
    refine J_iload_n dX9_hasCat_1 rfl rfl ?_
    refine J_iconst (v := nI 2) dX9_hasCat_2 (by decide) ?_
    refine K_callVp dX9_hasCat_3 YX9_askedBlock kX9_148 (rc_of mO rfl) (c_X9_askedBlock_no mO mS hfit e0 2) rfl rfl (Nat.le_of_ble_eq_true rfl) (by decide) (fun v3 w3 q3 => ?_)
    obtain ⟨rfl, u3⟩ := q3
    have mO : w3.1 m = mCell m (va_up x 0 (nI 1)) := u3.1
    have mS := (u3.2.1 _ (by omega)).trans mS
    have mF := (u3.2.1 _ (by omega)).trans mF
    have mK := (u3.2.1 _ (by omega)).trans mK
    have m2 := (u3.2.1 _ (by omega)).trans m2
    have m3 := (u3.2.1 _ (by omega)).trans m3
    have m4 := (u3.2.1 _ (by omega)).trans m4
    have m5 := (u3.2.1 _ (by omega)).trans m5
    have m6 := (u3.2.1 _ (by omega)).trans m6
    have m7 := (u3.2.1 _ (by omega)).trans m7
    have m8 := (u3.2.1 _ (by omega)).trans m8
    refine J_iconst (v := nI 1) dX9_hasCat_6 (by decide) ?_
    refine J_icmp_ne (tgt := 14) dX9_hasCat_7 (by decide) (fun h7 => ?_) (fun h7 => absurd h7 (by decide))
    refine J_iconst (v := nI 0) dX9_hasCat_14 (by decide) ?_
    exact J_ireturn dX9_hasCat_15 rfl rfl (GM_of (c := 1) (v := 0) (G' := G) (th := 1) (gQ_eq (onI_no e0)) (fun z => absurd z (by decide)) ((Fr.rf w m (m + 11)).up u3 (by omega) (by omega)) (by decide) ⟨va_up x 0 (nI 1), _, _, _, _, _, _, _, ⟨_, _, _, mO, mS, mF, mK, hfit⟩, ⟨m2, m3, m4, m5, m6, m7, m8⟩, (up_s _ _ _), ⟨((up_n _ _ (by decide)).trans x6), ((up_n _ _ (by decide)).trans x7), ((up_n _ _ (by decide)).trans x13), ((up_n _ _ (by decide)).trans x14), ((up_n _ _ (by decide)).trans x15), ((up_n _ _ (by decide)).trans x16)⟩, hRd⟩)
  | some i =>
    obtain ⟨hi, rfl⟩ := vi_some (by omega) e0
    refine J_aload_n dX9_hasCat_0 rfl rfl ?_
    refine J_iload_n dX9_hasCat_1 rfl rfl ?_
    refine J_iconst (v := nI 2) dX9_hasCat_2 (by decide) ?_
    refine K_callVp dX9_hasCat_3 YX9_askedBlock kX9_148 (rc_of mO rfl) (c_X9_askedBlock_ok mO mS hfit hi (k := 2) (by decide)) rfl rfl (Nat.le_of_ble_eq_true rfl) (by decide) (fun v3 w3 q3 => ?_)
    obtain ⟨rfl, u3⟩ := q3
    have mO : w3.1 m = mCell m (va_up x 0 (nI 0)) := u3.1
    have mS := (u3.2.1 _ (by omega)).trans mS
    have mF := (u3.2.1 _ (by omega)).trans mF
    have mK := (u3.2.1 _ (by omega)).trans mK
    have m2 := (u3.2.1 _ (by omega)).trans m2
    have m3 := (u3.2.1 _ (by omega)).trans m3
    have m4 := (u3.2.1 _ (by omega)).trans m4
    have m5 := (u3.2.1 _ (by omega)).trans m5
    have m6 := (u3.2.1 _ (by omega)).trans m6
    have m7 := (u3.2.1 _ (by omega)).trans m7
    have m8 := (u3.2.1 _ (by omega)).trans m8
    refine J_iconst (v := nI 1) dX9_hasCat_6 (by decide) ?_
    rw [(hfit.2.1 i hi).2.2.1]
    refine J_icmp_ne (tgt := 14) dX9_hasCat_7 (by decide) (fun h7 => ?_) (fun h7 => ?_)
    · skip
      have e7 : sCa (gS G) i = false := b2i_n1 h7
      refine J_iconst (v := nI 0) dX9_hasCat_14 (by decide) ?_
      exact J_ireturn dX9_hasCat_15 rfl rfl (GM_of (c := 0) (v := b2i (sCa (gS G) i)) (G' := G) (th := 0) (gQ_eq (onI_ok e0)) (fun _ => by rw [e7]; rfl) ((Fr.rf w m (m + 11)).up u3 (by omega) (by omega)) (by decide) ⟨va_up x 0 (nI 0), _, _, _, _, _, _, _, ⟨_, _, _, mO, mS, mF, mK, hfit⟩, ⟨m2, m3, m4, m5, m6, m7, m8⟩, (up_s _ _ _), ⟨((up_n _ _ (by decide)).trans x6), ((up_n _ _ (by decide)).trans x7), ((up_n _ _ (by decide)).trans x13), ((up_n _ _ (by decide)).trans x14), ((up_n _ _ (by decide)).trans x15), ((up_n _ _ (by decide)).trans x16)⟩, hRd⟩)
    · skip
      have e7 : sCa (gS G) i = true := b2i_1.mp h7
      refine J_iconst (v := nI 1) dX9_hasCat_10 (by decide) ?_
      refine J_goto (tgt := 15) dX9_hasCat_11 (by decide) ?_
      exact J_ireturn dX9_hasCat_15 rfl rfl (GM_of (c := 0) (v := b2i (sCa (gS G) i)) (G' := G) (th := 0) (gQ_eq (onI_ok e0)) (fun _ => by rw [e7]; rfl) ((Fr.rf w m (m + 11)).up u3 (by omega) (by omega)) (by decide) ⟨va_up x 0 (nI 0), _, _, _, _, _, _, _, ⟨_, _, _, mO, mS, mF, mK, hfit⟩, ⟨m2, m3, m4, m5, m6, m7, m8⟩, (up_s _ _ _), ⟨((up_n _ _ (by decide)).trans x6), ((up_n _ _ (by decide)).trans x7), ((up_n _ _ (by decide)).trans x13), ((up_n _ _ (by decide)).trans x14), ((up_n _ _ (by decide)).trans x15), ((up_n _ _ (by decide)).trans x16)⟩, hRd⟩)

theorem c_X9_blockOf {w : Wd} {m : Nat} {G : Gme} {th : Nat} (hM : RepM w m G th) (y : Int32) : MC 5 mX9_blockOf 0 0 [.ref m, .int y] w (GM w m [1] (gQ G (onI (sNt (gS G)) y (fun i => (0, nI (sPl (gS G) i)))))) := by
  obtain ⟨x, f2, f3, f4, f5, f6, f7, f8, hA, ⟨m2, m3, m4, m5, m6, m7, m8⟩, hx0, hRx, hRd⟩ := id hM
  obtain ⟨x6, x7, x13, x14, x15, x16⟩ := id hRx
  obtain ⟨hV, hP, hT, hO, ⟨hb8, hb60, hb14⟩, hE, hF⟩ := id hRd
  obtain ⟨f, g, h, mO, mS, mF, mK, hfit⟩ := id hA
  have hwf := hfit.2.2.2.2
  have hnb := hwf.nb
  have hnt := hwf.nt
  refine MC_j pnX9 rfl rfl rfl (Or.inr (fun E w h => RP_no E w h)) ?_
  show J 5 mX9_blockOf 0 [some (.ref m), some (.int y)] [] w 0 0 _
  cases e0 : vi (sNt (gS G)) y with
  | none =>
    refine J_aload_n dX9_blockOf_0 rfl rfl ?_
    refine J_iload_n dX9_blockOf_1 rfl rfl ?_
    refine J_iconst (v := nI 0) dX9_blockOf_2 (by decide) ?_
    refine K_callVp dX9_blockOf_3 YX9_asked kX9_178 (rc_of mO rfl) (c_X9_asked_no mO mS hfit e0 0) rfl rfl (Nat.le_of_ble_eq_true rfl) (by decide) (fun v3 w3 q3 => ?_)
    obtain ⟨rfl, u3⟩ := q3
    have mO : w3.1 m = mCell m (va_up x 0 (nI 1)) := u3.1
    have mS := (u3.2.1 _ (by omega)).trans mS
    have mF := (u3.2.1 _ (by omega)).trans mF
    have mK := (u3.2.1 _ (by omega)).trans mK
    have m2 := (u3.2.1 _ (by omega)).trans m2
    have m3 := (u3.2.1 _ (by omega)).trans m3
    have m4 := (u3.2.1 _ (by omega)).trans m4
    have m5 := (u3.2.1 _ (by omega)).trans m5
    have m6 := (u3.2.1 _ (by omega)).trans m6
    have m7 := (u3.2.1 _ (by omega)).trans m7
    have m8 := (u3.2.1 _ (by omega)).trans m8
    exact J_ireturn dX9_blockOf_6 rfl rfl (GM_of (c := 1) (v := 0) (G' := G) (th := 1) (gQ_eq (onI_no e0)) (fun z => absurd z (by decide)) ((Fr.rf w m (m + 11)).up u3 (by omega) (by omega)) (by decide) ⟨va_up x 0 (nI 1), _, _, _, _, _, _, _, ⟨_, _, _, mO, mS, mF, mK, hfit⟩, ⟨m2, m3, m4, m5, m6, m7, m8⟩, (up_s _ _ _), ⟨((up_n _ _ (by decide)).trans x6), ((up_n _ _ (by decide)).trans x7), ((up_n _ _ (by decide)).trans x13), ((up_n _ _ (by decide)).trans x14), ((up_n _ _ (by decide)).trans x15), ((up_n _ _ (by decide)).trans x16)⟩, hRd⟩)
  | some i =>
    obtain ⟨hi, rfl⟩ := vi_some (by omega) e0
    refine J_aload_n dX9_blockOf_0 rfl rfl ?_
    refine J_iload_n dX9_blockOf_1 rfl rfl ?_
    refine J_iconst (v := nI 0) dX9_blockOf_2 (by decide) ?_
    refine K_callVp dX9_blockOf_3 YX9_asked kX9_178 (rc_of mO rfl) (c_X9_asked_ok mO mS hfit hi (k := 0) (by decide)) rfl rfl (Nat.le_of_ble_eq_true rfl) (by decide) (fun v3 w3 q3 => ?_)
    obtain ⟨rfl, u3⟩ := q3
    have mO : w3.1 m = mCell m (va_up x 0 (nI 0)) := u3.1
    have mS := (u3.2.1 _ (by omega)).trans mS
    have mF := (u3.2.1 _ (by omega)).trans mF
    have mK := (u3.2.1 _ (by omega)).trans mK
    have m2 := (u3.2.1 _ (by omega)).trans m2
    have m3 := (u3.2.1 _ (by omega)).trans m3
    have m4 := (u3.2.1 _ (by omega)).trans m4
    have m5 := (u3.2.1 _ (by omega)).trans m5
    have m6 := (u3.2.1 _ (by omega)).trans m6
    have m7 := (u3.2.1 _ (by omega)).trans m7
    have m8 := (u3.2.1 _ (by omega)).trans m8
    exact J_ireturn dX9_blockOf_6 rfl rfl (GM_of (c := 0) (v := nI (sPl (gS G) i)) (G' := G) (th := 0) (gQ_eq (onI_ok e0)) (fun _ => (hfit.2.2.2.1 i hi).1) ((Fr.rf w m (m + 11)).up u3 (by omega) (by omega)) (by decide) ⟨va_up x 0 (nI 0), _, _, _, _, _, _, _, ⟨_, _, _, mO, mS, mF, mK, hfit⟩, ⟨m2, m3, m4, m5, m6, m7, m8⟩, (up_s _ _ _), ⟨((up_n _ _ (by decide)).trans x6), ((up_n _ _ (by decide)).trans x7), ((up_n _ _ (by decide)).trans x13), ((up_n _ _ (by decide)).trans x14), ((up_n _ _ (by decide)).trans x15), ((up_n _ _ (by decide)).trans x16)⟩, hRd⟩)

theorem c_X9_priority {w : Wd} {m : Nat} {G : Gme} {th : Nat} (hM : RepM w m G th) (y : Int32) : MC 5 mX9_priority 0 0 [.ref m, .int y] w (GM w m [1] (gQ G (onI (sNt (gS G)) y (fun i => (0, nI (sPr (gS G) i)))))) := by
  obtain ⟨x, f2, f3, f4, f5, f6, f7, f8, hA, ⟨m2, m3, m4, m5, m6, m7, m8⟩, hx0, hRx, hRd⟩ := id hM
  obtain ⟨x6, x7, x13, x14, x15, x16⟩ := id hRx
  obtain ⟨hV, hP, hT, hO, ⟨hb8, hb60, hb14⟩, hE, hF⟩ := id hRd
  obtain ⟨f, g, h, mO, mS, mF, mK, hfit⟩ := id hA
  have hwf := hfit.2.2.2.2
  have hnb := hwf.nb
  have hnt := hwf.nt
  refine MC_j pnX9 rfl rfl rfl (Or.inr (fun E w h => RP_no E w h)) ?_
  show J 5 mX9_priority 0 [some (.ref m), some (.int y)] [] w 0 0 _
  cases e0 : vi (sNt (gS G)) y with
  | none =>
    refine J_aload_n dX9_priority_0 rfl rfl ?_
    refine J_iload_n dX9_priority_1 rfl rfl ?_
    refine J_iconst (v := nI 1) dX9_priority_2 (by decide) ?_
    refine K_callVp dX9_priority_3 YX9_asked kX9_178 (rc_of mO rfl) (c_X9_asked_no mO mS hfit e0 1) rfl rfl (Nat.le_of_ble_eq_true rfl) (by decide) (fun v3 w3 q3 => ?_)
    obtain ⟨rfl, u3⟩ := q3
    have mO : w3.1 m = mCell m (va_up x 0 (nI 1)) := u3.1
    have mS := (u3.2.1 _ (by omega)).trans mS
    have mF := (u3.2.1 _ (by omega)).trans mF
    have mK := (u3.2.1 _ (by omega)).trans mK
    have m2 := (u3.2.1 _ (by omega)).trans m2
    have m3 := (u3.2.1 _ (by omega)).trans m3
    have m4 := (u3.2.1 _ (by omega)).trans m4
    have m5 := (u3.2.1 _ (by omega)).trans m5
    have m6 := (u3.2.1 _ (by omega)).trans m6
    have m7 := (u3.2.1 _ (by omega)).trans m7
    have m8 := (u3.2.1 _ (by omega)).trans m8
    exact J_ireturn dX9_priority_6 rfl rfl (GM_of (c := 1) (v := 0) (G' := G) (th := 1) (gQ_eq (onI_no e0)) (fun z => absurd z (by decide)) ((Fr.rf w m (m + 11)).up u3 (by omega) (by omega)) (by decide) ⟨va_up x 0 (nI 1), _, _, _, _, _, _, _, ⟨_, _, _, mO, mS, mF, mK, hfit⟩, ⟨m2, m3, m4, m5, m6, m7, m8⟩, (up_s _ _ _), ⟨((up_n _ _ (by decide)).trans x6), ((up_n _ _ (by decide)).trans x7), ((up_n _ _ (by decide)).trans x13), ((up_n _ _ (by decide)).trans x14), ((up_n _ _ (by decide)).trans x15), ((up_n _ _ (by decide)).trans x16)⟩, hRd⟩)
  | some i =>
    obtain ⟨hi, rfl⟩ := vi_some (by omega) e0
    refine J_aload_n dX9_priority_0 rfl rfl ?_
    refine J_iload_n dX9_priority_1 rfl rfl ?_
    refine J_iconst (v := nI 1) dX9_priority_2 (by decide) ?_
    refine K_callVp dX9_priority_3 YX9_asked kX9_178 (rc_of mO rfl) (c_X9_asked_ok mO mS hfit hi (k := 1) (by decide)) rfl rfl (Nat.le_of_ble_eq_true rfl) (by decide) (fun v3 w3 q3 => ?_)
    obtain ⟨rfl, u3⟩ := q3
    have mO : w3.1 m = mCell m (va_up x 0 (nI 0)) := u3.1
    have mS := (u3.2.1 _ (by omega)).trans mS
    have mF := (u3.2.1 _ (by omega)).trans mF
    have mK := (u3.2.1 _ (by omega)).trans mK
    have m2 := (u3.2.1 _ (by omega)).trans m2
    have m3 := (u3.2.1 _ (by omega)).trans m3
    have m4 := (u3.2.1 _ (by omega)).trans m4
    have m5 := (u3.2.1 _ (by omega)).trans m5
    have m6 := (u3.2.1 _ (by omega)).trans m6
    have m7 := (u3.2.1 _ (by omega)).trans m7
    have m8 := (u3.2.1 _ (by omega)).trans m8
    exact J_ireturn dX9_priority_6 rfl rfl (GM_of (c := 0) (v := nI (sPr (gS G) i)) (G' := G) (th := 0) (gQ_eq (onI_ok e0)) (fun _ => (hfit.2.2.2.1 i hi).2.1) ((Fr.rf w m (m + 11)).up u3 (by omega) (by omega)) (by decide) ⟨va_up x 0 (nI 0), _, _, _, _, _, _, _, ⟨_, _, _, mO, mS, mF, mK, hfit⟩, ⟨m2, m3, m4, m5, m6, m7, m8⟩, (up_s _ _ _), ⟨((up_n _ _ (by decide)).trans x6), ((up_n _ _ (by decide)).trans x7), ((up_n _ _ (by decide)).trans x13), ((up_n _ _ (by decide)).trans x14), ((up_n _ _ (by decide)).trans x15), ((up_n _ _ (by decide)).trans x16)⟩, hRd⟩)

theorem c_X9_remainingTicks {w : Wd} {m : Nat} {G : Gme} {th : Nat} (hM : RepM w m G th) (y : Int32) : MC 5 mX9_remainingTicks 0 0 [.ref m, .int y] w (GM w m [1] (gQ G (onI (sNt (gS G)) y (fun i => (0, nI (sRe (gS G) i)))))) := by
  obtain ⟨x, f2, f3, f4, f5, f6, f7, f8, hA, ⟨m2, m3, m4, m5, m6, m7, m8⟩, hx0, hRx, hRd⟩ := id hM
  obtain ⟨x6, x7, x13, x14, x15, x16⟩ := id hRx
  obtain ⟨hV, hP, hT, hO, ⟨hb8, hb60, hb14⟩, hE, hF⟩ := id hRd
  obtain ⟨f, g, h, mO, mS, mF, mK, hfit⟩ := id hA
  have hwf := hfit.2.2.2.2
  have hnb := hwf.nb
  have hnt := hwf.nt
  refine MC_j pnX9 rfl rfl rfl (Or.inr (fun E w h => RP_no E w h)) ?_
  show J 5 mX9_remainingTicks 0 [some (.ref m), some (.int y)] [] w 0 0 _
  cases e0 : vi (sNt (gS G)) y with
  | none =>
    refine J_aload_n dX9_remainingTicks_0 rfl rfl ?_
    refine J_iload_n dX9_remainingTicks_1 rfl rfl ?_
    refine J_iconst (v := nI 2) dX9_remainingTicks_2 (by decide) ?_
    refine K_callVp dX9_remainingTicks_3 YX9_asked kX9_178 (rc_of mO rfl) (c_X9_asked_no mO mS hfit e0 2) rfl rfl (Nat.le_of_ble_eq_true rfl) (by decide) (fun v3 w3 q3 => ?_)
    obtain ⟨rfl, u3⟩ := q3
    have mO : w3.1 m = mCell m (va_up x 0 (nI 1)) := u3.1
    have mS := (u3.2.1 _ (by omega)).trans mS
    have mF := (u3.2.1 _ (by omega)).trans mF
    have mK := (u3.2.1 _ (by omega)).trans mK
    have m2 := (u3.2.1 _ (by omega)).trans m2
    have m3 := (u3.2.1 _ (by omega)).trans m3
    have m4 := (u3.2.1 _ (by omega)).trans m4
    have m5 := (u3.2.1 _ (by omega)).trans m5
    have m6 := (u3.2.1 _ (by omega)).trans m6
    have m7 := (u3.2.1 _ (by omega)).trans m7
    have m8 := (u3.2.1 _ (by omega)).trans m8
    exact J_ireturn dX9_remainingTicks_6 rfl rfl (GM_of (c := 1) (v := 0) (G' := G) (th := 1) (gQ_eq (onI_no e0)) (fun z => absurd z (by decide)) ((Fr.rf w m (m + 11)).up u3 (by omega) (by omega)) (by decide) ⟨va_up x 0 (nI 1), _, _, _, _, _, _, _, ⟨_, _, _, mO, mS, mF, mK, hfit⟩, ⟨m2, m3, m4, m5, m6, m7, m8⟩, (up_s _ _ _), ⟨((up_n _ _ (by decide)).trans x6), ((up_n _ _ (by decide)).trans x7), ((up_n _ _ (by decide)).trans x13), ((up_n _ _ (by decide)).trans x14), ((up_n _ _ (by decide)).trans x15), ((up_n _ _ (by decide)).trans x16)⟩, hRd⟩)
  | some i =>
    obtain ⟨hi, rfl⟩ := vi_some (by omega) e0
    refine J_aload_n dX9_remainingTicks_0 rfl rfl ?_
    refine J_iload_n dX9_remainingTicks_1 rfl rfl ?_
    refine J_iconst (v := nI 2) dX9_remainingTicks_2 (by decide) ?_
    refine K_callVp dX9_remainingTicks_3 YX9_asked kX9_178 (rc_of mO rfl) (c_X9_asked_ok mO mS hfit hi (k := 2) (by decide)) rfl rfl (Nat.le_of_ble_eq_true rfl) (by decide) (fun v3 w3 q3 => ?_)
    obtain ⟨rfl, u3⟩ := q3
    have mO : w3.1 m = mCell m (va_up x 0 (nI 0)) := u3.1
    have mS := (u3.2.1 _ (by omega)).trans mS
    have mF := (u3.2.1 _ (by omega)).trans mF
    have mK := (u3.2.1 _ (by omega)).trans mK
    have m2 := (u3.2.1 _ (by omega)).trans m2
    have m3 := (u3.2.1 _ (by omega)).trans m3
    have m4 := (u3.2.1 _ (by omega)).trans m4
    have m5 := (u3.2.1 _ (by omega)).trans m5
    have m6 := (u3.2.1 _ (by omega)).trans m6
    have m7 := (u3.2.1 _ (by omega)).trans m7
    have m8 := (u3.2.1 _ (by omega)).trans m8
    exact J_ireturn dX9_remainingTicks_6 rfl rfl (GM_of (c := 0) (v := nI (sRe (gS G) i)) (G' := G) (th := 0) (gQ_eq (onI_ok e0)) (fun _ => (hfit.2.2.2.1 i hi).2.2.1) ((Fr.rf w m (m + 11)).up u3 (by omega) (by omega)) (by decide) ⟨va_up x 0 (nI 0), _, _, _, _, _, _, _, ⟨_, _, _, mO, mS, mF, mK, hfit⟩, ⟨m2, m3, m4, m5, m6, m7, m8⟩, (up_s _ _ _), ⟨((up_n _ _ (by decide)).trans x6), ((up_n _ _ (by decide)).trans x7), ((up_n _ _ (by decide)).trans x13), ((up_n _ _ (by decide)).trans x14), ((up_n _ _ (by decide)).trans x15), ((up_n _ _ (by decide)).trans x16)⟩, hRd⟩)

theorem c_X9_isDerailed {w : Wd} {m : Nat} {G : Gme} {th : Nat} (hM : RepM w m G th) (y : Int32) : MC 5 mX9_isDerailed 0 0 [.ref m, .int y] w (GM w m [1] (gQ G (onI (sNt (gS G)) y (fun i => (0, b2i (sOf (gS G) i)))))) := by
  obtain ⟨x, f2, f3, f4, f5, f6, f7, f8, hA, ⟨m2, m3, m4, m5, m6, m7, m8⟩, hx0, hRx, hRd⟩ := id hM
  obtain ⟨x6, x7, x13, x14, x15, x16⟩ := id hRx
  obtain ⟨hV, hP, hT, hO, ⟨hb8, hb60, hb14⟩, hE, hF⟩ := id hRd
  obtain ⟨f, g, h, mO, mS, mF, mK, hfit⟩ := id hA
  have hwf := hfit.2.2.2.2
  have hnb := hwf.nb
  have hnt := hwf.nt
  refine MC_j pnX9 rfl rfl rfl (Or.inr (fun E w h => RP_no E w h)) ?_
  show J 5 mX9_isDerailed 0 [some (.ref m), some (.int y)] [] w 0 0 _
  cases e0 : vi (sNt (gS G)) y with
  | none =>
    refine J_aload_n dX9_isDerailed_0 rfl rfl ?_
    refine J_iload_n dX9_isDerailed_1 rfl rfl ?_
    refine J_iconst (v := nI 4) dX9_isDerailed_2 (by decide) ?_
    refine K_callVp dX9_isDerailed_3 YX9_asked kX9_178 (rc_of mO rfl) (c_X9_asked_no mO mS hfit e0 4) rfl rfl (Nat.le_of_ble_eq_true rfl) (by decide) (fun v3 w3 q3 => ?_)
    obtain ⟨rfl, u3⟩ := q3
    have mO : w3.1 m = mCell m (va_up x 0 (nI 1)) := u3.1
    have mS := (u3.2.1 _ (by omega)).trans mS
    have mF := (u3.2.1 _ (by omega)).trans mF
    have mK := (u3.2.1 _ (by omega)).trans mK
    have m2 := (u3.2.1 _ (by omega)).trans m2
    have m3 := (u3.2.1 _ (by omega)).trans m3
    have m4 := (u3.2.1 _ (by omega)).trans m4
    have m5 := (u3.2.1 _ (by omega)).trans m5
    have m6 := (u3.2.1 _ (by omega)).trans m6
    have m7 := (u3.2.1 _ (by omega)).trans m7
    have m8 := (u3.2.1 _ (by omega)).trans m8
    refine J_iconst (v := nI 1) dX9_isDerailed_6 (by decide) ?_
    refine J_icmp_ne (tgt := 14) dX9_isDerailed_7 (by decide) (fun h7 => ?_) (fun h7 => absurd h7 (by decide))
    refine J_iconst (v := nI 0) dX9_isDerailed_14 (by decide) ?_
    exact J_ireturn dX9_isDerailed_15 rfl rfl (GM_of (c := 1) (v := 0) (G' := G) (th := 1) (gQ_eq (onI_no e0)) (fun z => absurd z (by decide)) ((Fr.rf w m (m + 11)).up u3 (by omega) (by omega)) (by decide) ⟨va_up x 0 (nI 1), _, _, _, _, _, _, _, ⟨_, _, _, mO, mS, mF, mK, hfit⟩, ⟨m2, m3, m4, m5, m6, m7, m8⟩, (up_s _ _ _), ⟨((up_n _ _ (by decide)).trans x6), ((up_n _ _ (by decide)).trans x7), ((up_n _ _ (by decide)).trans x13), ((up_n _ _ (by decide)).trans x14), ((up_n _ _ (by decide)).trans x15), ((up_n _ _ (by decide)).trans x16)⟩, hRd⟩)
  | some i =>
    obtain ⟨hi, rfl⟩ := vi_some (by omega) e0
    refine J_aload_n dX9_isDerailed_0 rfl rfl ?_
    refine J_iload_n dX9_isDerailed_1 rfl rfl ?_
    refine J_iconst (v := nI 4) dX9_isDerailed_2 (by decide) ?_
    refine K_callVp dX9_isDerailed_3 YX9_asked kX9_178 (rc_of mO rfl) (c_X9_asked_ok mO mS hfit hi (k := 4) (by decide)) rfl rfl (Nat.le_of_ble_eq_true rfl) (by decide) (fun v3 w3 q3 => ?_)
    obtain ⟨rfl, u3⟩ := q3
    have mO : w3.1 m = mCell m (va_up x 0 (nI 0)) := u3.1
    have mS := (u3.2.1 _ (by omega)).trans mS
    have mF := (u3.2.1 _ (by omega)).trans mF
    have mK := (u3.2.1 _ (by omega)).trans mK
    have m2 := (u3.2.1 _ (by omega)).trans m2
    have m3 := (u3.2.1 _ (by omega)).trans m3
    have m4 := (u3.2.1 _ (by omega)).trans m4
    have m5 := (u3.2.1 _ (by omega)).trans m5
    have m6 := (u3.2.1 _ (by omega)).trans m6
    have m7 := (u3.2.1 _ (by omega)).trans m7
    have m8 := (u3.2.1 _ (by omega)).trans m8
    refine J_iconst (v := nI 1) dX9_isDerailed_6 (by decide) ?_
    rw [(hfit.2.2.2.1 i hi).2.2.2.2.1]
    refine J_icmp_ne (tgt := 14) dX9_isDerailed_7 (by decide) (fun h7 => ?_) (fun h7 => ?_)
    · skip
      have e7 : sOf (gS G) i = false := b2i_n1 h7
      refine J_iconst (v := nI 0) dX9_isDerailed_14 (by decide) ?_
      exact J_ireturn dX9_isDerailed_15 rfl rfl (GM_of (c := 0) (v := b2i (sOf (gS G) i)) (G' := G) (th := 0) (gQ_eq (onI_ok e0)) (fun _ => by rw [e7]; rfl) ((Fr.rf w m (m + 11)).up u3 (by omega) (by omega)) (by decide) ⟨va_up x 0 (nI 0), _, _, _, _, _, _, _, ⟨_, _, _, mO, mS, mF, mK, hfit⟩, ⟨m2, m3, m4, m5, m6, m7, m8⟩, (up_s _ _ _), ⟨((up_n _ _ (by decide)).trans x6), ((up_n _ _ (by decide)).trans x7), ((up_n _ _ (by decide)).trans x13), ((up_n _ _ (by decide)).trans x14), ((up_n _ _ (by decide)).trans x15), ((up_n _ _ (by decide)).trans x16)⟩, hRd⟩)
    · skip
      have e7 : sOf (gS G) i = true := b2i_1.mp h7
      refine J_iconst (v := nI 1) dX9_isDerailed_10 (by decide) ?_
      refine J_goto (tgt := 15) dX9_isDerailed_11 (by decide) ?_
      exact J_ireturn dX9_isDerailed_15 rfl rfl (GM_of (c := 0) (v := b2i (sOf (gS G) i)) (G' := G) (th := 0) (gQ_eq (onI_ok e0)) (fun _ => by rw [e7]; rfl) ((Fr.rf w m (m + 11)).up u3 (by omega) (by omega)) (by decide) ⟨va_up x 0 (nI 0), _, _, _, _, _, _, _, ⟨_, _, _, mO, mS, mF, mK, hfit⟩, ⟨m2, m3, m4, m5, m6, m7, m8⟩, (up_s _ _ _), ⟨((up_n _ _ (by decide)).trans x6), ((up_n _ _ (by decide)).trans x7), ((up_n _ _ (by decide)).trans x13), ((up_n _ _ (by decide)).trans x14), ((up_n _ _ (by decide)).trans x15), ((up_n _ _ (by decide)).trans x16)⟩, hRd⟩)

theorem c_X9_waits {w : Wd} {m : Nat} {G : Gme} {th : Nat} (hM : RepM w m G th) (y : Int32) : MC 5 mX9_waits 0 0 [.ref m, .int y] w (GM w m [1] (gQ G (onI (sNt (gS G)) y (fun i => (0, sWa (gS G) i))))) := by
  obtain ⟨x, f2, f3, f4, f5, f6, f7, f8, hA, ⟨m2, m3, m4, m5, m6, m7, m8⟩, hx0, hRx, hRd⟩ := id hM
  obtain ⟨x6, x7, x13, x14, x15, x16⟩ := id hRx
  obtain ⟨hV, hP, hT, hO, ⟨hb8, hb60, hb14⟩, hE, hF⟩ := id hRd
  obtain ⟨f, g, h, mO, mS, mF, mK, hfit⟩ := id hA
  have hwf := hfit.2.2.2.2
  have hnb := hwf.nb
  have hnt := hwf.nt
  refine MC_j pnX9 rfl rfl rfl (Or.inr (fun E w h => RP_no E w h)) ?_
  show J 5 mX9_waits 0 [some (.ref m), some (.int y)] [] w 0 0 _
  cases e0 : vi (sNt (gS G)) y with
  | none =>
    refine J_aload_n dX9_waits_0 rfl rfl ?_
    refine J_iload_n dX9_waits_1 rfl rfl ?_
    refine J_iconst (v := nI 5) dX9_waits_2 (by decide) ?_
    refine K_callVp dX9_waits_3 YX9_asked kX9_178 (rc_of mO rfl) (c_X9_asked_no mO mS hfit e0 5) rfl rfl (Nat.le_of_ble_eq_true rfl) (by decide) (fun v3 w3 q3 => ?_)
    obtain ⟨rfl, u3⟩ := q3
    have mO : w3.1 m = mCell m (va_up x 0 (nI 1)) := u3.1
    have mS := (u3.2.1 _ (by omega)).trans mS
    have mF := (u3.2.1 _ (by omega)).trans mF
    have mK := (u3.2.1 _ (by omega)).trans mK
    have m2 := (u3.2.1 _ (by omega)).trans m2
    have m3 := (u3.2.1 _ (by omega)).trans m3
    have m4 := (u3.2.1 _ (by omega)).trans m4
    have m5 := (u3.2.1 _ (by omega)).trans m5
    have m6 := (u3.2.1 _ (by omega)).trans m6
    have m7 := (u3.2.1 _ (by omega)).trans m7
    have m8 := (u3.2.1 _ (by omega)).trans m8
    exact J_ireturn dX9_waits_6 rfl rfl (GM_of (c := 1) (v := 0) (G' := G) (th := 1) (gQ_eq (onI_no e0)) (fun z => absurd z (by decide)) ((Fr.rf w m (m + 11)).up u3 (by omega) (by omega)) (by decide) ⟨va_up x 0 (nI 1), _, _, _, _, _, _, _, ⟨_, _, _, mO, mS, mF, mK, hfit⟩, ⟨m2, m3, m4, m5, m6, m7, m8⟩, (up_s _ _ _), ⟨((up_n _ _ (by decide)).trans x6), ((up_n _ _ (by decide)).trans x7), ((up_n _ _ (by decide)).trans x13), ((up_n _ _ (by decide)).trans x14), ((up_n _ _ (by decide)).trans x15), ((up_n _ _ (by decide)).trans x16)⟩, hRd⟩)
  | some i =>
    obtain ⟨hi, rfl⟩ := vi_some (by omega) e0
    refine J_aload_n dX9_waits_0 rfl rfl ?_
    refine J_iload_n dX9_waits_1 rfl rfl ?_
    refine J_iconst (v := nI 5) dX9_waits_2 (by decide) ?_
    refine K_callVp dX9_waits_3 YX9_asked kX9_178 (rc_of mO rfl) (c_X9_asked_ok mO mS hfit hi (k := 5) (by decide)) rfl rfl (Nat.le_of_ble_eq_true rfl) (by decide) (fun v3 w3 q3 => ?_)
    obtain ⟨rfl, u3⟩ := q3
    have mO : w3.1 m = mCell m (va_up x 0 (nI 0)) := u3.1
    have mS := (u3.2.1 _ (by omega)).trans mS
    have mF := (u3.2.1 _ (by omega)).trans mF
    have mK := (u3.2.1 _ (by omega)).trans mK
    have m2 := (u3.2.1 _ (by omega)).trans m2
    have m3 := (u3.2.1 _ (by omega)).trans m3
    have m4 := (u3.2.1 _ (by omega)).trans m4
    have m5 := (u3.2.1 _ (by omega)).trans m5
    have m6 := (u3.2.1 _ (by omega)).trans m6
    have m7 := (u3.2.1 _ (by omega)).trans m7
    have m8 := (u3.2.1 _ (by omega)).trans m8
    exact J_ireturn dX9_waits_6 rfl rfl (GM_of (c := 0) (v := sWa (gS G) i) (G' := G) (th := 0) (gQ_eq (onI_ok e0)) (fun _ => (hfit.2.2.2.1 i hi).2.2.2.2.2) ((Fr.rf w m (m + 11)).up u3 (by omega) (by omega)) (by decide) ⟨va_up x 0 (nI 0), _, _, _, _, _, _, _, ⟨_, _, _, mO, mS, mF, mK, hfit⟩, ⟨m2, m3, m4, m5, m6, m7, m8⟩, (up_s _ _ _), ⟨((up_n _ _ (by decide)).trans x6), ((up_n _ _ (by decide)).trans x7), ((up_n _ _ (by decide)).trans x13), ((up_n _ _ (by decide)).trans x14), ((up_n _ _ (by decide)).trans x15), ((up_n _ _ (by decide)).trans x16)⟩, hRd⟩)

end JMASK

/-! THE CLASS: its questions -/
section JFACE2
theorem RepX.rt {w w' : Wd} {x : Nat} {G : Gme} (hX : RepX w x G) {lo hi : Nat} (f : Fr w w' lo hi) (h1 : x + 112 ≤ lo) (h2 : hi ≤ x + 115) (hR : RepR w' (x + 111)) : RepX w' x G := by
  obtain ⟨h0, h1', h2', ⟨S9, h3⟩, ⟨K9, h4⟩, h5, h6, ⟨p, e, m, x1, x2, h7⟩, h8, h9⟩ := hX
  exact ⟨(f.1 _ (by omega)).trans h0, h1'.kept (fun j hj => f.1 _ (by omega)), h2'.kept (fun j hj => f.1 _ (by omega)), ⟨S9, h3.kept (fun j hj => f.1 _ (by omega))⟩, ⟨K9, h4.kp (fun j hj => f.1 _ (by omega))⟩, hR, h6.kp (fun j hj => f.1 _ (by omega)), ⟨p, e, m, x1, x2, h7.kp (fun j hj => f.1 _ (by omega))⟩, h8.kp (fun j hj => f.1 _ (by omega)), h9⟩
theorem RepX.tr {w w' : Wd} {x : Nat} {G : Gme} (hX : RepX w x G) {lo hi : Nat} (f : Fr w w' lo hi) (h1 : x + 117 ≤ lo) (h2 : hi ≤ x + 122) (hT : RepT w' (x + 115)) : RepX w' x G := by
  obtain ⟨h0, h1', h2', ⟨S9, h3⟩, ⟨K9, h4⟩, h5, h6, ⟨p, e, m, x1, x2, h7⟩, h8, h9⟩ := hX
  exact ⟨(f.1 _ (by omega)).trans h0, h1'.kept (fun j hj => f.1 _ (by omega)), h2'.kept (fun j hj => f.1 _ (by omega)), ⟨S9, h3.kept (fun j hj => f.1 _ (by omega))⟩, ⟨K9, h4.kp (fun j hj => f.1 _ (by omega))⟩, h5.kp (fun j hj => f.1 _ (by omega)), hT, ⟨p, e, m, x1, x2, h7.kp (fun j hj => f.1 _ (by omega))⟩, h8.kp (fun j hj => f.1 _ (by omega)), h9⟩
theorem RepX.ou {w w' : Wd} {x : Nat} {G : Gme} {l : List Nat} (hX : RepX w x G) (f : Fr w w' (x + 124) (x + 126)) (hO : RepO w' (x + 124) l) (hl : ∀ j, j < l.length → l.getD j 0 < 256) : RepX w' x (gOut G l) := by
  obtain ⟨h0, h1', h2', ⟨S9, h3⟩, ⟨K9, h4⟩, h5, h6, ⟨p, e, m, x1, x2, h7⟩, h8, h9⟩ := hX
  exact ⟨(f.1 _ (by omega)).trans h0, h1'.kept (fun j hj => f.1 _ (by omega)), h2'.kept (fun j hj => f.1 _ (by omega)), ⟨S9, h3.kept (fun j hj => f.1 _ (by omega))⟩, ⟨K9, h4.kp (fun j hj => f.1 _ (by omega))⟩, h5.kp (fun j hj => f.1 _ (by omega)), h6.kp (fun j hj => f.1 _ (by omega)), ⟨p, e, m, x1, x2, h7.kp (fun j hj => f.1 _ (by omega))⟩, hO, ⟨hl, h9.2⟩⟩
theorem GXo_ne {w : Wd} {x : Nat} {G : Gme} {v : Int32} : ∀ E w', ¬ GXo w x (gQ G (ok0 v)) (.inr E) w' := fun E w' h => h.2.2.elim (fun z => by cases z.2) (fun z => z.1 rfl)
theorem c_X8_blockCount {w : Wd} {x : Nat} {G : Gme} (hX : RepX w x G) : MC 2 mX8_blockCount 1 6 [.ref x] w (GXo w x (gQ G (ok0 (nI (sNb (gS G)))))) := by
  obtain ⟨hX0, hL, hV, ⟨S9, hW9⟩, ⟨K, hH⟩, hRt, hTr, ⟨p9, e9, m9, y1, y2, hD⟩, hOu, hB⟩ := id hX
  obtain ⟨x4, x5, x6, f1, f2, f3, f4, f5, f6, f7, f8, hO, ⟨k1, k2, k3, k4, k5, k6, k7, k8⟩, ⟨bc, ba, bo⟩, hlen, hlk, htr, hwf⟩ := id hL
  have hnb := hwf.nb
  have hnt := hwf.nt
  refine MC_j pnX8 rfl rfl rfl (Or.inr (fun E w h => GXo_ne E w h)) ?_
  show J 2 mX8_blockCount 0 [some (.ref x)] [] w 1 6 _
  refine J_aload_n dX8_blockCount_0 rfl rfl ?_
  refine J_getfield dX8_blockCount_1 fX8_12 hX0 rfl ?_
  refine J_getfield dX8_blockCount_4 fX8_93 hO rfl ?_
  exact J_ireturn dX8_blockCount_7 rfl rfl (GXo_ok (v := nI (sNb (gS G))) (G' := G) (rfl) rfl (Fr.rf w x (x + 126)) hX)

theorem c_X8_trainCount {w : Wd} {x : Nat} {G : Gme} (hX : RepX w x G) : MC 2 mX8_trainCount 1 6 [.ref x] w (GXo w x (gQ G (ok0 (nI (sNt (gS G)))))) := by
  obtain ⟨hX0, hL, hV, ⟨S9, hW9⟩, ⟨K, hH⟩, hRt, hTr, ⟨p9, e9, m9, y1, y2, hD⟩, hOu, hB⟩ := id hX
  obtain ⟨x4, x5, x6, f1, f2, f3, f4, f5, f6, f7, f8, hO, ⟨k1, k2, k3, k4, k5, k6, k7, k8⟩, ⟨bc, ba, bo⟩, hlen, hlk, htr, hwf⟩ := id hL
  have hnb := hwf.nb
  have hnt := hwf.nt
  refine MC_j pnX8 rfl rfl rfl (Or.inr (fun E w h => GXo_ne E w h)) ?_
  show J 2 mX8_trainCount 0 [some (.ref x)] [] w 1 6 _
  refine J_aload_n dX8_trainCount_0 rfl rfl ?_
  refine J_getfield dX8_trainCount_1 fX8_12 hX0 rfl ?_
  refine J_getfield dX8_trainCount_4 fX8_187 hO rfl ?_
  exact J_ireturn dX8_trainCount_7 rfl rfl (GXo_ok (v := nI (sNt (gS G))) (G' := G) (rfl) rfl (Fr.rf w x (x + 126)) hX)

theorem c_X8_ticks {w : Wd} {x : Nat} {G : Gme} (hX : RepX w x G) : MC 2 mX8_ticks 1 6 [.ref x] w (GXo w x (gQ G (ok0 (sTk (gS G))))) := by
  obtain ⟨hX0, hL, hV, ⟨S9, hW9⟩, ⟨K, hH⟩, hRt, hTr, ⟨p9, e9, m9, y1, y2, hD⟩, hOu, hB⟩ := id hX
  obtain ⟨x4, x5, x6, f1, f2, f3, f4, f5, f6, f7, f8, hO, ⟨k1, k2, k3, k4, k5, k6, k7, k8⟩, ⟨bc, ba, bo⟩, hlen, hlk, htr, hwf⟩ := id hL
  have hnb := hwf.nb
  have hnt := hwf.nt
  refine MC_j pnX8 rfl rfl rfl (Or.inr (fun E w h => GXo_ne E w h)) ?_
  show J 2 mX8_ticks 0 [some (.ref x)] [] w 1 6 _
  refine J_aload_n dX8_ticks_0 rfl rfl ?_
  refine J_getfield dX8_ticks_1 fX8_12 hX0 rfl ?_
  refine J_getfield dX8_ticks_4 fX8_223 hO rfl ?_
  exact J_ireturn dX8_ticks_7 rfl rfl (GXo_ok (v := sTk (gS G)) (G' := G) (rfl) rfl (Fr.rf w x (x + 126)) hX)

theorem c_X8_arrivals {w : Wd} {x : Nat} {G : Gme} (hX : RepX w x G) : MC 2 mX8_arrivals 1 6 [.ref x] w (GXo w x (gQ G (ok0 (sAr (gS G))))) := by
  obtain ⟨hX0, hL, hV, ⟨S9, hW9⟩, ⟨K, hH⟩, hRt, hTr, ⟨p9, e9, m9, y1, y2, hD⟩, hOu, hB⟩ := id hX
  obtain ⟨x4, x5, x6, f1, f2, f3, f4, f5, f6, f7, f8, hO, ⟨k1, k2, k3, k4, k5, k6, k7, k8⟩, ⟨bc, ba, bo⟩, hlen, hlk, htr, hwf⟩ := id hL
  have hnb := hwf.nb
  have hnt := hwf.nt
  refine MC_j pnX8 rfl rfl rfl (Or.inr (fun E w h => GXo_ne E w h)) ?_
  show J 2 mX8_arrivals 0 [some (.ref x)] [] w 1 6 _
  refine J_aload_n dX8_arrivals_0 rfl rfl ?_
  refine J_getfield dX8_arrivals_1 fX8_12 hX0 rfl ?_
  refine J_getfield dX8_arrivals_4 fX8_226 hO rfl ?_
  exact J_ireturn dX8_arrivals_7 rfl rfl (GXo_ok (v := sAr (gS G)) (G' := G) (rfl) rfl (Fr.rf w x (x + 126)) hX)

theorem c_X8_undoCount {w : Wd} {x : Nat} {G : Gme} (hX : RepX w x G) : MC 2 mX8_undoCount 1 6 [.ref x] w (GXo w x (gQ G (ok0 (nI (gC G))))) := by
  obtain ⟨hX0, hL, hV, ⟨S9, hW9⟩, ⟨K, hH⟩, hRt, hTr, ⟨p9, e9, m9, y1, y2, hD⟩, hOu, hB⟩ := id hX
  have hwf := hL.wf
  have hnb := hwf.nb
  have hnt := hwf.nt
  obtain ⟨nx9, sl9, f9, hHo, -, -, -, ⟨-, hc9⟩, -⟩ := id hH
  refine MC_j pnX8 rfl rfl rfl (Or.inr (fun E w h => GXo_ne E w h)) ?_
  show J 2 mX8_undoCount 0 [some (.ref x)] [] w 1 6 _
  refine J_aload_n dX8_undoCount_0 rfl rfl ?_
  refine J_getfield dX8_undoCount_1 fX8_25 hX0 rfl ?_
  refine J_getfield dX8_undoCount_4 fX8_328 hHo rfl ?_
  exact J_ireturn dX8_undoCount_7 rfl rfl (GXo_ok (v := nI (gC G)) (G' := G) (rfl) rfl (Fr.rf w x (x + 126)) hX)

theorem c_X8_length {w : Wd} {x : Nat} {G : Gme} (hX : RepX w x G) (y : Int32) : MC 7 mX8_length 1 6 [.ref x, .int y] w (GXo w x (gQ G (onI (sNb (gS G)) y (fun i => (0, nI (sLen (gS G) i)))))) := by
  obtain ⟨hX0, hL, hV, ⟨S9, hW9⟩, ⟨K, hH⟩, hRt, hTr, ⟨p9, e9, m9, y1, y2, hD⟩, hOu, hB⟩ := id hX
  obtain ⟨x4, x5, x6, f1, f2, f3, f4, f5, f6, f7, f8, hO, ⟨k1, k2, k3, k4, k5, k6, k7, k8⟩, ⟨bc, ba, bo⟩, hlen, hlk, htr, hwf⟩ := id hL
  have hnb := hwf.nb
  have hnt := hwf.nt
  refine MC_j pnX8 rfl rfl rfl (Or.inl (by decide)) ?_
  show J 7 mX8_length 0 [some (.ref x), some (.int y)] [] w 1 6 _
  refine J_aload_n dX8_length_0 rfl rfl ?_
  refine J_iload_n dX8_length_1 rfl rfl ?_
  refine J_needB rfl dX8_length_2 (by decide) rfl hX (fun e => GXo_no (c := 0) (v := 0) (G' := G) (gQ_eq (onI_no e)) (Fr.rf _ _ _) hX) (fun i e2 => ?_)
  obtain ⟨hi, rfl⟩ := vi_some (by omega) e2
  refine J_aload_n dX8_length_5 rfl rfl ?_
  refine J_getfield dX8_length_6 fX8_12 hX0 rfl ?_
  refine J_getfield dX8_length_9 fX8_100 hO rfl ?_
  refine J_iload_n dX8_length_12 rfl rfl ?_
  have q13a := hwf.2.1 i (by omega)
  refine K_iald (v := nI (sLen (gS G) i)) dX8_length_13 k1 (by omega) (by decide) (hlen _ (by omega)) ?_
  exact J_ireturn dX8_length_14 rfl rfl (GXo_ok (v := nI (sLen (gS G) i)) (G' := G) (gQ_eq (onI_ok e2)) rfl (Fr.rf w x (x + 126)) hX)

theorem c_X8_isCushion {w : Wd} {x : Nat} {G : Gme} (hX : RepX w x G) (y : Int32) : MC 7 mX8_isCushion 1 6 [.ref x, .int y] w (GXo w x (gQ G (onI (sNb (gS G)) y (fun i => (0, b2i (sCu (gS G) i)))))) := by
  obtain ⟨hX0, hL, hV, ⟨S9, hW9⟩, ⟨K, hH⟩, hRt, hTr, ⟨p9, e9, m9, y1, y2, hD⟩, hOu, hB⟩ := id hX
  obtain ⟨x4, x5, x6, f1, f2, f3, f4, f5, f6, f7, f8, hO, ⟨k1, k2, k3, k4, k5, k6, k7, k8⟩, ⟨bc, ba, bo⟩, hlen, hlk, htr, hwf⟩ := id hL
  have hnb := hwf.nb
  have hnt := hwf.nt
  refine MC_j pnX8 rfl rfl rfl (Or.inl (by decide)) ?_
  show J 7 mX8_isCushion 0 [some (.ref x), some (.int y)] [] w 1 6 _
  refine J_aload_n dX8_isCushion_0 rfl rfl ?_
  refine J_iload_n dX8_isCushion_1 rfl rfl ?_
  refine J_needB rfl dX8_isCushion_2 (by decide) rfl hX (fun e => GXo_no (c := 0) (v := 0) (G' := G) (gQ_eq (onI_no e)) (Fr.rf _ _ _) hX) (fun i e2 => ?_)
  obtain ⟨hi, rfl⟩ := vi_some (by omega) e2
  refine J_aload_n dX8_isCushion_5 rfl rfl ?_
  refine J_getfield dX8_isCushion_6 fX8_12 hX0 rfl ?_
  refine J_getfield dX8_isCushion_9 fX8_104 hO rfl ?_
  refine J_iload_n dX8_isCushion_12 rfl rfl ?_
  refine K_callS dX8_isCushion_13 YX8_has kX8_107 (c_has w bc (by omega)) rfl rfl (Nat.le_of_ble_eq_true rfl) (by decide) ?_
  exact J_ireturn dX8_isCushion_16 rfl (b2i_nar _) (GXo_ok (v := b2i (sCu (gS G) i)) (G' := G) (gQ_eq (onI_ok e2)) rfl (Fr.rf w x (x + 126)) hX)

theorem c_X8_hasCat {w : Wd} {x : Nat} {G : Gme} (hX : RepX w x G) (y : Int32) : MC 7 mX8_hasCat 1 6 [.ref x, .int y] w (GXo w x (gQ G (onI (sNb (gS G)) y (fun i => (0, b2i (sCa (gS G) i)))))) := by
  obtain ⟨hX0, hL, hV, ⟨S9, hW9⟩, ⟨K, hH⟩, hRt, hTr, ⟨p9, e9, m9, y1, y2, hD⟩, hOu, hB⟩ := id hX
  obtain ⟨x4, x5, x6, f1, f2, f3, f4, f5, f6, f7, f8, hO, ⟨k1, k2, k3, k4, k5, k6, k7, k8⟩, ⟨bc, ba, bo⟩, hlen, hlk, htr, hwf⟩ := id hL
  have hnb := hwf.nb
  have hnt := hwf.nt
  refine MC_j pnX8 rfl rfl rfl (Or.inl (by decide)) ?_
  show J 7 mX8_hasCat 0 [some (.ref x), some (.int y)] [] w 1 6 _
  refine J_aload_n dX8_hasCat_0 rfl rfl ?_
  refine J_iload_n dX8_hasCat_1 rfl rfl ?_
  refine J_needB rfl dX8_hasCat_2 (by decide) rfl hX (fun e => GXo_no (c := 0) (v := 0) (G' := G) (gQ_eq (onI_no e)) (Fr.rf _ _ _) hX) (fun i e2 => ?_)
  obtain ⟨hi, rfl⟩ := vi_some (by omega) e2
  refine J_aload_n dX8_hasCat_5 rfl rfl ?_
  refine J_getfield dX8_hasCat_6 fX8_12 hX0 rfl ?_
  refine J_getfield dX8_hasCat_9 fX8_111 hO rfl ?_
  refine J_iload_n dX8_hasCat_12 rfl rfl ?_
  refine K_callS dX8_hasCat_13 YX8_has kX8_107 (c_has w ba (by omega)) rfl rfl (Nat.le_of_ble_eq_true rfl) (by decide) ?_
  exact J_ireturn dX8_hasCat_16 rfl (b2i_nar _) (GXo_ok (v := b2i (sCa (gS G) i)) (G' := G) (gQ_eq (onI_ok e2)) rfl (Fr.rf w x (x + 126)) hX)

theorem c_X8_signal {w : Wd} {x : Nat} {G : Gme} (hX : RepX w x G) (y : Int32) : MC 7 mX8_signal 1 6 [.ref x, .int y] w (GXo w x (gQ G (onI (sNb (gS G)) y (fun i => (0, nI (sgn (gS G) i)))))) := by
  obtain ⟨hX0, hL, hV, ⟨S9, hW9⟩, ⟨K, hH⟩, hRt, hTr, ⟨p9, e9, m9, y1, y2, hD⟩, hOu, hB⟩ := id hX
  obtain ⟨x4, x5, x6, f1, f2, f3, f4, f5, f6, f7, f8, hO, ⟨k1, k2, k3, k4, k5, k6, k7, k8⟩, ⟨bc, ba, bo⟩, hlen, hlk, htr, hwf⟩ := id hL
  have hnb := hwf.nb
  have hnt := hwf.nt
  refine MC_j pnX8 rfl rfl rfl (Or.inl (by decide)) ?_
  show J 7 mX8_signal 0 [some (.ref x), some (.int y)] [] w 1 6 _
  refine J_aload_n dX8_signal_0 rfl rfl ?_
  refine J_iload_n dX8_signal_1 rfl rfl ?_
  refine J_needB rfl dX8_signal_2 (by decide) rfl hX (fun e => GXo_no (c := 0) (v := 0) (G' := G) (gQ_eq (onI_no e)) (Fr.rf _ _ _) hX) (fun i e2 => ?_)
  obtain ⟨hi, rfl⟩ := vi_some (by omega) e2
  refine J_aload_n dX8_signal_5 rfl rfl ?_
  refine J_getfield dX8_signal_6 fX8_12 hX0 rfl ?_
  refine J_iload_n dX8_signal_9 rfl rfl ?_
  refine K_callV dX8_signal_10 YX4_signalOf kX8_134 (RepC.rc hL) (c_X4_signalOf hL (by omega)) rfl rfl (Nat.le_of_ble_eq_true rfl) (by decide) ?_
  exact J_ireturn dX8_signal_13 rfl (narC _ (sgn_lt _ _)) (GXo_ok (v := nI (sgn (gS G) i)) (G' := G) (gQ_eq (onI_ok e2)) rfl (Fr.rf w x (x + 126)) hX)

theorem c_X8_blockOf {w : Wd} {x : Nat} {G : Gme} (hX : RepX w x G) (y : Int32) : MC 7 mX8_blockOf 1 6 [.ref x, .int y] w (GXo w x (gQ G (onI (sNt (gS G)) y (fun i => (0, nI (sPl (gS G) i)))))) := by
  obtain ⟨hX0, hL, hV, ⟨S9, hW9⟩, ⟨K, hH⟩, hRt, hTr, ⟨p9, e9, m9, y1, y2, hD⟩, hOu, hB⟩ := id hX
  obtain ⟨x4, x5, x6, f1, f2, f3, f4, f5, f6, f7, f8, hO, ⟨k1, k2, k3, k4, k5, k6, k7, k8⟩, ⟨bc, ba, bo⟩, hlen, hlk, htr, hwf⟩ := id hL
  have hnb := hwf.nb
  have hnt := hwf.nt
  refine MC_j pnX8 rfl rfl rfl (Or.inl (by decide)) ?_
  show J 7 mX8_blockOf 0 [some (.ref x), some (.int y)] [] w 1 6 _
  refine J_aload_n dX8_blockOf_0 rfl rfl ?_
  refine J_iload_n dX8_blockOf_1 rfl rfl ?_
  refine J_needT rfl dX8_blockOf_2 (by decide) rfl hX (fun e => GXo_no (c := 0) (v := 0) (G' := G) (gQ_eq (onI_no e)) (Fr.rf _ _ _) hX) (fun i e2 => ?_)
  obtain ⟨hi, rfl⟩ := vi_some (by omega) e2
  refine J_aload_n dX8_blockOf_5 rfl rfl ?_
  refine J_getfield dX8_blockOf_6 fX8_12 hX0 rfl ?_
  refine J_getfield dX8_blockOf_9 fX8_190 hO rfl ?_
  refine J_iload_n dX8_blockOf_12 rfl rfl ?_
  have q13a := hwf.2.2.2.2.1 i (by omega)
  refine K_iald (v := nI (sPl (gS G) i)) dX8_blockOf_13 k3 (by omega) (by decide) (htr _ (by omega)).1 ?_
  exact J_ireturn dX8_blockOf_14 rfl rfl (GXo_ok (v := nI (sPl (gS G) i)) (G' := G) (gQ_eq (onI_ok e2)) rfl (Fr.rf w x (x + 126)) hX)

theorem c_X8_priority {w : Wd} {x : Nat} {G : Gme} (hX : RepX w x G) (y : Int32) : MC 7 mX8_priority 1 6 [.ref x, .int y] w (GXo w x (gQ G (onI (sNt (gS G)) y (fun i => (0, nI (sPr (gS G) i)))))) := by
  obtain ⟨hX0, hL, hV, ⟨S9, hW9⟩, ⟨K, hH⟩, hRt, hTr, ⟨p9, e9, m9, y1, y2, hD⟩, hOu, hB⟩ := id hX
  obtain ⟨x4, x5, x6, f1, f2, f3, f4, f5, f6, f7, f8, hO, ⟨k1, k2, k3, k4, k5, k6, k7, k8⟩, ⟨bc, ba, bo⟩, hlen, hlk, htr, hwf⟩ := id hL
  have hnb := hwf.nb
  have hnt := hwf.nt
  refine MC_j pnX8 rfl rfl rfl (Or.inl (by decide)) ?_
  show J 7 mX8_priority 0 [some (.ref x), some (.int y)] [] w 1 6 _
  refine J_aload_n dX8_priority_0 rfl rfl ?_
  refine J_iload_n dX8_priority_1 rfl rfl ?_
  refine J_needT rfl dX8_priority_2 (by decide) rfl hX (fun e => GXo_no (c := 0) (v := 0) (G' := G) (gQ_eq (onI_no e)) (Fr.rf _ _ _) hX) (fun i e2 => ?_)
  obtain ⟨hi, rfl⟩ := vi_some (by omega) e2
  refine J_aload_n dX8_priority_5 rfl rfl ?_
  refine J_getfield dX8_priority_6 fX8_12 hX0 rfl ?_
  refine J_getfield dX8_priority_9 fX8_193 hO rfl ?_
  refine J_iload_n dX8_priority_12 rfl rfl ?_
  have q13a := hwf.2.2.2.2.1 i (by omega)
  refine K_iald (v := nI (sPr (gS G) i)) dX8_priority_13 k4 (by omega) (by decide) (htr _ (by omega)).2.1 ?_
  exact J_ireturn dX8_priority_14 rfl rfl (GXo_ok (v := nI (sPr (gS G) i)) (G' := G) (gQ_eq (onI_ok e2)) rfl (Fr.rf w x (x + 126)) hX)

theorem c_X8_remainingTicks {w : Wd} {x : Nat} {G : Gme} (hX : RepX w x G) (y : Int32) : MC 7 mX8_remainingTicks 1 6 [.ref x, .int y] w (GXo w x (gQ G (onI (sNt (gS G)) y (fun i => (0, nI (sRe (gS G) i)))))) := by
  obtain ⟨hX0, hL, hV, ⟨S9, hW9⟩, ⟨K, hH⟩, hRt, hTr, ⟨p9, e9, m9, y1, y2, hD⟩, hOu, hB⟩ := id hX
  obtain ⟨x4, x5, x6, f1, f2, f3, f4, f5, f6, f7, f8, hO, ⟨k1, k2, k3, k4, k5, k6, k7, k8⟩, ⟨bc, ba, bo⟩, hlen, hlk, htr, hwf⟩ := id hL
  have hnb := hwf.nb
  have hnt := hwf.nt
  refine MC_j pnX8 rfl rfl rfl (Or.inl (by decide)) ?_
  show J 7 mX8_remainingTicks 0 [some (.ref x), some (.int y)] [] w 1 6 _
  refine J_aload_n dX8_remainingTicks_0 rfl rfl ?_
  refine J_iload_n dX8_remainingTicks_1 rfl rfl ?_
  refine J_needT rfl dX8_remainingTicks_2 (by decide) rfl hX (fun e => GXo_no (c := 0) (v := 0) (G' := G) (gQ_eq (onI_no e)) (Fr.rf _ _ _) hX) (fun i e2 => ?_)
  obtain ⟨hi, rfl⟩ := vi_some (by omega) e2
  refine J_aload_n dX8_remainingTicks_5 rfl rfl ?_
  refine J_getfield dX8_remainingTicks_6 fX8_12 hX0 rfl ?_
  refine J_getfield dX8_remainingTicks_9 fX8_196 hO rfl ?_
  refine J_iload_n dX8_remainingTicks_12 rfl rfl ?_
  have q13a := hwf.2.2.2.2.1 i (by omega)
  refine K_iald (v := nI (sRe (gS G) i)) dX8_remainingTicks_13 k5 (by omega) (by decide) (htr _ (by omega)).2.2.1 ?_
  exact J_ireturn dX8_remainingTicks_14 rfl rfl (GXo_ok (v := nI (sRe (gS G) i)) (G' := G) (gQ_eq (onI_ok e2)) rfl (Fr.rf w x (x + 126)) hX)

theorem c_X8_isDerailed {w : Wd} {x : Nat} {G : Gme} (hX : RepX w x G) (y : Int32) : MC 7 mX8_isDerailed 1 6 [.ref x, .int y] w (GXo w x (gQ G (onI (sNt (gS G)) y (fun i => (0, b2i (sOf (gS G) i)))))) := by
  obtain ⟨hX0, hL, hV, ⟨S9, hW9⟩, ⟨K, hH⟩, hRt, hTr, ⟨p9, e9, m9, y1, y2, hD⟩, hOu, hB⟩ := id hX
  obtain ⟨x4, x5, x6, f1, f2, f3, f4, f5, f6, f7, f8, hO, ⟨k1, k2, k3, k4, k5, k6, k7, k8⟩, ⟨bc, ba, bo⟩, hlen, hlk, htr, hwf⟩ := id hL
  have hnb := hwf.nb
  have hnt := hwf.nt
  refine MC_j pnX8 rfl rfl rfl (Or.inl (by decide)) ?_
  show J 7 mX8_isDerailed 0 [some (.ref x), some (.int y)] [] w 1 6 _
  refine J_aload_n dX8_isDerailed_0 rfl rfl ?_
  refine J_iload_n dX8_isDerailed_1 rfl rfl ?_
  refine J_needT rfl dX8_isDerailed_2 (by decide) rfl hX (fun e => GXo_no (c := 0) (v := 0) (G' := G) (gQ_eq (onI_no e)) (Fr.rf _ _ _) hX) (fun i e2 => ?_)
  obtain ⟨hi, rfl⟩ := vi_some (by omega) e2
  refine J_aload_n dX8_isDerailed_5 rfl rfl ?_
  refine J_getfield dX8_isDerailed_6 fX8_12 hX0 rfl ?_
  refine J_getfield dX8_isDerailed_9 fX8_202 hO rfl ?_
  refine J_iload_n dX8_isDerailed_12 rfl rfl ?_
  refine K_callS dX8_isDerailed_13 YX8_has kX8_107 (c_has w bo (by omega)) rfl rfl (Nat.le_of_ble_eq_true rfl) (by decide) ?_
  exact J_ireturn dX8_isDerailed_16 rfl (b2i_nar _) (GXo_ok (v := b2i (sOf (gS G) i)) (G' := G) (gQ_eq (onI_ok e2)) rfl (Fr.rf w x (x + 126)) hX)

theorem c_X8_waits {w : Wd} {x : Nat} {G : Gme} (hX : RepX w x G) (y : Int32) : MC 7 mX8_waits 1 6 [.ref x, .int y] w (GXo w x (gQ G (onI (sNt (gS G)) y (fun i => (0, sWa (gS G) i))))) := by
  obtain ⟨hX0, hL, hV, ⟨S9, hW9⟩, ⟨K, hH⟩, hRt, hTr, ⟨p9, e9, m9, y1, y2, hD⟩, hOu, hB⟩ := id hX
  obtain ⟨x4, x5, x6, f1, f2, f3, f4, f5, f6, f7, f8, hO, ⟨k1, k2, k3, k4, k5, k6, k7, k8⟩, ⟨bc, ba, bo⟩, hlen, hlk, htr, hwf⟩ := id hL
  have hnb := hwf.nb
  have hnt := hwf.nt
  refine MC_j pnX8 rfl rfl rfl (Or.inl (by decide)) ?_
  show J 7 mX8_waits 0 [some (.ref x), some (.int y)] [] w 1 6 _
  refine J_aload_n dX8_waits_0 rfl rfl ?_
  refine J_iload_n dX8_waits_1 rfl rfl ?_
  refine J_needT rfl dX8_waits_2 (by decide) rfl hX (fun e => GXo_no (c := 0) (v := 0) (G' := G) (gQ_eq (onI_no e)) (Fr.rf _ _ _) hX) (fun i e2 => ?_)
  obtain ⟨hi, rfl⟩ := vi_some (by omega) e2
  refine J_aload_n dX8_waits_5 rfl rfl ?_
  refine J_getfield dX8_waits_6 fX8_12 hX0 rfl ?_
  refine J_getfield dX8_waits_9 fX8_205 hO rfl ?_
  refine J_iload_n dX8_waits_12 rfl rfl ?_
  refine K_iald (v := sWa (gS G) i) dX8_waits_13 k8 (by omega) (by decide) (htr _ (by omega)).2.2.2.2.2 ?_
  exact J_ireturn dX8_waits_14 rfl rfl (GXo_ok (v := sWa (gS G) i) (G' := G) (gQ_eq (onI_ok e2)) rfl (Fr.rf w x (x + 126)) hX)

theorem c_X8_trainIn {w : Wd} {x : Nat} {G : Gme} (hX : RepX w x G) (y : Int32) : MC 7 mX8_trainIn 1 6 [.ref x, .int y] w (GXo w x (gQ G (onI (sNb (gS G)) y (fun i => opA (tAt (gS G) i))))) := by
  obtain ⟨hX0, hL, hV, ⟨S9, hW9⟩, ⟨K, hH⟩, hRt, hTr, ⟨p9, e9, m9, y1, y2, hD⟩, hOu, hB⟩ := id hX
  obtain ⟨x4, x5, x6, f1, f2, f3, f4, f5, f6, f7, f8, hO, ⟨k1, k2, k3, k4, k5, k6, k7, k8⟩, ⟨bc, ba, bo⟩, hlen, hlk, htr, hwf⟩ := id hL
  have hnb := hwf.nb
  have hnt := hwf.nt
  refine MC_j pnX8 rfl rfl rfl (Or.inl (by decide)) ?_
  show J 7 mX8_trainIn 0 [some (.ref x), some (.int y)] [] w 1 6 _
  refine J_aload_n dX8_trainIn_0 rfl rfl ?_
  refine J_iload_n dX8_trainIn_1 rfl rfl ?_
  refine J_needB rfl dX8_trainIn_2 (by decide) rfl hX (fun e => GXo_no (c := 0) (v := 0) (G' := G) (gQ_eq (onI_no e)) (Fr.rf _ _ _) hX) (fun i e2 => ?_)
  obtain ⟨hi, rfl⟩ := vi_some (by omega) e2
  refine J_aload_n dX8_trainIn_5 rfl rfl ?_
  refine J_getfield dX8_trainIn_6 fX8_12 hX0 rfl ?_
  refine J_iload_n dX8_trainIn_9 rfl rfl ?_
  refine K_callV dX8_trainIn_10 YX4_trainAt kX8_125 (RepC.rc hL) (c_X4_trainAt hL (by omega)) rfl rfl (Nat.le_of_ble_eq_true rfl) (by decide) ?_
  exact J_found rfl dX8_trainIn_13 dX8_trainIn_16 rfl (by decide) rfl (tAt_b hwf) hX (Fr.rf w x (x + 126)) (onI_ok e2)

theorem c_X8_reservedBy {w : Wd} {x : Nat} {G : Gme} (hX : RepX w x G) (y : Int32) : MC 7 mX8_reservedBy 1 6 [.ref x, .int y] w (GXo w x (gQ G (onI (sNb (gS G)) y (fun i => opA (hOf (gS G) i))))) := by
  obtain ⟨hX0, hL, hV, ⟨S9, hW9⟩, ⟨K, hH⟩, hRt, hTr, ⟨p9, e9, m9, y1, y2, hD⟩, hOu, hB⟩ := id hX
  obtain ⟨x4, x5, x6, f1, f2, f3, f4, f5, f6, f7, f8, hO, ⟨k1, k2, k3, k4, k5, k6, k7, k8⟩, ⟨bc, ba, bo⟩, hlen, hlk, htr, hwf⟩ := id hL
  have hnb := hwf.nb
  have hnt := hwf.nt
  refine MC_j pnX8 rfl rfl rfl (Or.inl (by decide)) ?_
  show J 7 mX8_reservedBy 0 [some (.ref x), some (.int y)] [] w 1 6 _
  refine J_aload_n dX8_reservedBy_0 rfl rfl ?_
  refine J_iload_n dX8_reservedBy_1 rfl rfl ?_
  refine J_needB rfl dX8_reservedBy_2 (by decide) rfl hX (fun e => GXo_no (c := 0) (v := 0) (G' := G) (gQ_eq (onI_no e)) (Fr.rf _ _ _) hX) (fun i e2 => ?_)
  obtain ⟨hi, rfl⟩ := vi_some (by omega) e2
  refine J_aload_n dX8_reservedBy_5 rfl rfl ?_
  refine J_getfield dX8_reservedBy_6 fX8_12 hX0 rfl ?_
  refine J_iload_n dX8_reservedBy_9 rfl rfl ?_
  refine K_callV dX8_reservedBy_10 YX4_holderOf kX8_131 (RepC.rc hL) (c_X4_holderOf hL (by omega)) rfl rfl (Nat.le_of_ble_eq_true rfl) (by decide) ?_
  exact J_found rfl dX8_reservedBy_13 dX8_reservedBy_16 rfl (by decide) rfl (hOf_b hwf) hX (Fr.rf w x (x + 126)) (onI_ok e2)

theorem c_X8_goal {w : Wd} {x : Nat} {G : Gme} (hX : RepX w x G) (y : Int32) : MC 7 mX8_goal 1 6 [.ref x, .int y] w (GXo w x (gQ G (onI (sNt (gS G)) y (fun i => opA (sGo (gS G) i))))) := by
  obtain ⟨hX0, hL, hV, ⟨S9, hW9⟩, ⟨K, hH⟩, hRt, hTr, ⟨p9, e9, m9, y1, y2, hD⟩, hOu, hB⟩ := id hX
  obtain ⟨x4, x5, x6, f1, f2, f3, f4, f5, f6, f7, f8, hO, ⟨k1, k2, k3, k4, k5, k6, k7, k8⟩, ⟨bc, ba, bo⟩, hlen, hlk, htr, hwf⟩ := id hL
  have hnb := hwf.nb
  have hnt := hwf.nt
  refine MC_j pnX8 rfl rfl rfl (Or.inl (by decide)) ?_
  show J 7 mX8_goal 0 [some (.ref x), some (.int y)] [] w 1 6 _
  refine J_aload_n dX8_goal_0 rfl rfl ?_
  refine J_iload_n dX8_goal_1 rfl rfl ?_
  refine J_needT rfl dX8_goal_2 (by decide) rfl hX (fun e => GXo_no (c := 0) (v := 0) (G' := G) (gQ_eq (onI_no e)) (Fr.rf _ _ _) hX) (fun i e2 => ?_)
  obtain ⟨hi, rfl⟩ := vi_some (by omega) e2
  refine J_aload_n dX8_goal_5 rfl rfl ?_
  refine J_getfield dX8_goal_6 fX8_12 hX0 rfl ?_
  refine J_getfield dX8_goal_9 fX8_199 hO rfl ?_
  refine J_iload_n dX8_goal_12 rfl rfl ?_
  refine K_iald (v := oI (sGo (gS G) i)) dX8_goal_13 k6 (by omega) (by decide) (htr _ (by omega)).2.2.2.1 ?_
  exact J_found rfl dX8_goal_14 dX8_goal_17 rfl (by decide) rfl (sGo_b hwf hi) hX (Fr.rf w x (x + 126)) (onI_ok e2)

theorem c_X8_nextBlock {w : Wd} {x : Nat} {G : Gme} (hX : RepX w x G) (y : Int32) : MC 7 mX8_nextBlock 1 6 [.ref x, .int y] w (GXo w x (gQ G (onI (sNt (gS G)) y (fun i => opA (nx (gS G) i))))) := by
  obtain ⟨hX0, hL, hV, ⟨S9, hW9⟩, ⟨K, hH⟩, hRt, hTr, ⟨p9, e9, m9, y1, y2, hD⟩, hOu, hB⟩ := id hX
  obtain ⟨x4, x5, x6, f1, f2, f3, f4, f5, f6, f7, f8, hO, ⟨k1, k2, k3, k4, k5, k6, k7, k8⟩, ⟨bc, ba, bo⟩, hlen, hlk, htr, hwf⟩ := id hL
  have hnb := hwf.nb
  have hnt := hwf.nt
  refine MC_j pnX8 rfl rfl rfl (Or.inl (by decide)) ?_
  show J 7 mX8_nextBlock 0 [some (.ref x), some (.int y)] [] w 1 6 _
  refine J_aload_n dX8_nextBlock_0 rfl rfl ?_
  refine J_iload_n dX8_nextBlock_1 rfl rfl ?_
  refine J_needT rfl dX8_nextBlock_2 (by decide) rfl hX (fun e => GXo_no (c := 0) (v := 0) (G' := G) (gQ_eq (onI_no e)) (Fr.rf _ _ _) hX) (fun i e2 => ?_)
  obtain ⟨hi, rfl⟩ := vi_some (by omega) e2
  refine J_aload_n dX8_nextBlock_5 rfl rfl ?_
  refine J_getfield dX8_nextBlock_6 fX8_32 hX0 rfl ?_
  refine J_aload_n dX8_nextBlock_9 rfl rfl ?_
  refine J_getfield dX8_nextBlock_10 fX8_12 hX0 rfl ?_
  refine J_iload_n dX8_nextBlock_13 rfl rfl ?_
  refine K_callVp dX8_nextBlock_14 YX6_nextFor kX8_154 (RepR.rc hRt) (c_X6_nextFor hRt hL (by omega) hi) rfl rfl (Nat.le_of_ble_eq_true rfl) (by decide) (fun v14 w14 q14 => ?_)
  obtain ⟨rfl, hFq, hRq⟩ := q14
  exact J_found rfl dX8_nextBlock_17 dX8_nextBlock_20 rfl (by decide) rfl (nx_b hwf) (hX.rt hFq (by omega) (by omega) hRq) (hFq.wd (by omega) (by omega)) (onI_ok e2)

theorem c_X8_nearestCushion {w : Wd} {x : Nat} {G : Gme} (hX : RepX w x G) (y : Int32) : MC 7 mX8_nearestCushion 1 6 [.ref x, .int y] w (GXo w x (gQ G (onI (sNb (gS G)) y (fun i => opA (nrC (gS G) i))))) := by
  obtain ⟨hX0, hL, hV, ⟨S9, hW9⟩, ⟨K, hH⟩, hRt, hTr, ⟨p9, e9, m9, y1, y2, hD⟩, hOu, hB⟩ := id hX
  obtain ⟨x4, x5, x6, f1, f2, f3, f4, f5, f6, f7, f8, hO, ⟨k1, k2, k3, k4, k5, k6, k7, k8⟩, ⟨bc, ba, bo⟩, hlen, hlk, htr, hwf⟩ := id hL
  have hnb := hwf.nb
  have hnt := hwf.nt
  refine MC_j pnX8 rfl rfl rfl (Or.inl (by decide)) ?_
  show J 7 mX8_nearestCushion 0 [some (.ref x), some (.int y)] [] w 1 6 _
  refine J_aload_n dX8_nearestCushion_0 rfl rfl ?_
  refine J_iload_n dX8_nearestCushion_1 rfl rfl ?_
  refine J_needB rfl dX8_nearestCushion_2 (by decide) rfl hX (fun e => GXo_no (c := 0) (v := 0) (G' := G) (gQ_eq (onI_no e)) (Fr.rf _ _ _) hX) (fun i e2 => ?_)
  obtain ⟨hi, rfl⟩ := vi_some (by omega) e2
  refine J_aload_n dX8_nearestCushion_5 rfl rfl ?_
  refine J_getfield dX8_nearestCushion_6 fX8_32 hX0 rfl ?_
  refine J_aload_n dX8_nearestCushion_9 rfl rfl ?_
  refine J_getfield dX8_nearestCushion_10 fX8_12 hX0 rfl ?_
  refine J_iload_n dX8_nearestCushion_13 rfl rfl ?_
  refine K_callVp dX8_nearestCushion_14 YX6_cushionNear kX8_165 (RepR.rc hRt) (c_X6_cushionNear hRt hL (by omega) hi) rfl rfl (Nat.le_of_ble_eq_true rfl) (by decide) (fun v14 w14 q14 => ?_)
  obtain ⟨rfl, hFq, hRq⟩ := q14
  exact J_found rfl dX8_nearestCushion_17 dX8_nearestCushion_20 rfl (by decide) rfl (fun k hk => by have := amI_b k hk; omega) (hX.rt hFq (by omega) (by omega) hRq) (hFq.wd (by omega) (by omega)) (onI_ok e2)

theorem c_X8_blockedBy {w : Wd} {x : Nat} {G : Gme} (hX : RepX w x G) (y : Int32) : MC 7 mX8_blockedBy 1 6 [.ref x, .int y] w (GXo w x (gQ G (onI (sNt (gS G)) y (fun i => opA (bk (gS G) i))))) := by
  obtain ⟨hX0, hL, hV, ⟨S9, hW9⟩, ⟨K, hH⟩, hRt, hTr, ⟨p9, e9, m9, y1, y2, hD⟩, hOu, hB⟩ := id hX
  obtain ⟨x4, x5, x6, f1, f2, f3, f4, f5, f6, f7, f8, hO, ⟨k1, k2, k3, k4, k5, k6, k7, k8⟩, ⟨bc, ba, bo⟩, hlen, hlk, htr, hwf⟩ := id hL
  have hnb := hwf.nb
  have hnt := hwf.nt
  refine MC_j pnX8 rfl rfl rfl (Or.inl (by decide)) ?_
  show J 7 mX8_blockedBy 0 [some (.ref x), some (.int y)] [] w 1 6 _
  refine J_aload_n dX8_blockedBy_0 rfl rfl ?_
  refine J_iload_n dX8_blockedBy_1 rfl rfl ?_
  refine J_needT rfl dX8_blockedBy_2 (by decide) rfl hX (fun e => GXo_no (c := 0) (v := 0) (G' := G) (gQ_eq (onI_no e)) (Fr.rf _ _ _) hX) (fun i e2 => ?_)
  obtain ⟨hi, rfl⟩ := vi_some (by omega) e2
  refine J_aload_n dX8_blockedBy_5 rfl rfl ?_
  refine J_getfield dX8_blockedBy_6 fX8_39 hX0 rfl ?_
  refine J_aload_n dX8_blockedBy_9 rfl rfl ?_
  refine J_getfield dX8_blockedBy_10 fX8_12 hX0 rfl ?_
  refine J_iload_n dX8_blockedBy_13 rfl rfl ?_
  refine K_callVp dX8_blockedBy_14 YX7_blockerOf kX8_211 (RepT.rc hTr) (c_X7_blockerOf hTr hL (by omega) hi) rfl rfl (Nat.le_of_ble_eq_true rfl) (by decide) (fun v14 w14 q14 => ?_)
  obtain ⟨rfl, hFq, hRq⟩ := q14
  exact J_found rfl dX8_blockedBy_17 dX8_blockedBy_20 rfl (by decide) rfl (bk_b hwf) (hX.tr hFq (by omega) (by omega) hRq) (hFq.wd (by omega) (by omega)) (onI_ok e2)

theorem c_X8_trainByPriority {w : Wd} {x : Nat} {G : Gme} (hX : RepX w x G) (y : Int32) : MC 7 mX8_trainByPriority 1 6 [.ref x, .int y] w (GXo w x (gQ G (opA (rkX (gS G) y)))) := by
  obtain ⟨hX0, hL, hV, ⟨S9, hW9⟩, ⟨K, hH⟩, hRt, hTr, ⟨p9, e9, m9, y1, y2, hD⟩, hOu, hB⟩ := id hX
  obtain ⟨x4, x5, x6, f1, f2, f3, f4, f5, f6, f7, f8, hO, ⟨k1, k2, k3, k4, k5, k6, k7, k8⟩, ⟨bc, ba, bo⟩, hlen, hlk, htr, hwf⟩ := id hL
  have hnb := hwf.nb
  have hnt := hwf.nt
  refine MC_j pnX8 rfl rfl rfl (Or.inl (by decide)) ?_
  show J 7 mX8_trainByPriority 0 [some (.ref x), some (.int y)] [] w 1 6 _
  refine J_aload_n dX8_trainByPriority_0 rfl rfl ?_
  refine J_getfield dX8_trainByPriority_1 fX8_12 hX0 rfl ?_
  refine J_iload_n dX8_trainByPriority_4 rfl rfl ?_
  refine K_callV dX8_trainByPriority_5 YX4_trainAtRank kX8_208 (RepC.rc hL) (c_X4_trainAtRank hL y) rfl rfl (Nat.le_of_ble_eq_true rfl) (by decide) ?_
  exact J_found rfl dX8_trainByPriority_8 dX8_trainByPriority_11 rfl (by decide) rfl (rkX_b hwf) hX (Fr.rf _ _ _) rfl

end JFACE2

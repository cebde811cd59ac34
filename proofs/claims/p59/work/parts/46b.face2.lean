/-! THE CLASS: its questions -/
section JFACE2
theorem c_X8_areLinked {w : Wd} {x : Nat} {G : Gme} (hX : RepX w x G) (y z : Int32) : MC 7 mX8_areLinked 1 6 [.ref x, .int y, .int z] w (GXo w x (gQ G (onB2 (gS G) y z (fun a b => (0, b2i (sLk (gS G) a b)))))) := by
  obtain ⟨hX0, hL, hV, ⟨S9, hW9⟩, ⟨K, hH⟩, hRt, hTr, ⟨p9, e9, m9, y1, y2, hD⟩, hOu, hB⟩ := id hX
  obtain ⟨x4, x5, x6, f1, f2, f3, f4, f5, f6, f7, f8, hO, ⟨k1, k2, k3, k4, k5, k6, k7, k8⟩, ⟨bc, ba, bo⟩, hlen, hlk, htr, hwf⟩ := id hL
  have hnb := hwf.nb
  have hnt := hwf.nt
  refine MC_j pnX8 rfl rfl rfl (Or.inl (by decide)) ?_
  show J 7 mX8_areLinked 0 [some (.ref x), some (.int y), some (.int z)] [] w 1 6 _
  refine J_aload_n dX8_areLinked_0 rfl rfl ?_
  refine J_iload_n dX8_areLinked_1 rfl rfl ?_
  refine J_needB rfl dX8_areLinked_2 (by decide) rfl hX (fun e => GXo_no (c := 0) (v := 0) (G' := G) (gQ_eq (onB2_n1 e)) (Fr.rf _ _ _) hX) (fun i e2 => ?_)
  obtain ⟨hi, rfl⟩ := vi_some (by omega) e2
  refine J_aload_n dX8_areLinked_5 rfl rfl ?_
  refine J_iload_n dX8_areLinked_6 rfl rfl ?_
  refine J_needB rfl dX8_areLinked_7 (by decide) rfl hX (fun e => GXo_no (c := 0) (v := 0) (G' := G) (gQ_eq (onB2_n2 e)) (Fr.rf _ _ _) hX) (fun j e7 => ?_)
  obtain ⟨hj, rfl⟩ := vi_some (by omega) e7
  refine J_aload_n dX8_areLinked_10 rfl rfl ?_
  refine J_getfield dX8_areLinked_11 fX8_12 hX0 rfl ?_
  refine J_iload_n dX8_areLinked_14 rfl rfl ?_
  refine J_iload_n dX8_areLinked_15 rfl rfl ?_
  refine K_callV dX8_areLinked_16 YX4_isJoined kX8_114 (RepC.rc hL) (c_X4_isJoined hL (by omega) (by omega)) rfl rfl (Nat.le_of_ble_eq_true rfl) (by decide) ?_
  exact J_ireturn dX8_areLinked_19 rfl (b2i_nar _) (GXo_ok (v := b2i (sLk (gS G) i j)) (G' := G) (gQ_eq (onB2_ok e2 e7)) rfl (Fr.rf w x (x + 126)) hX)

theorem oI_dF {o : Option Nat} (hb : ∀ c, o = some c → c < 1000) : (if dF 1000 o < 1000 then nI (dF 1000 o) else -1) = oI o := by
  cases o with
  | none => rfl
  | some c => rw [if_pos (show dF 1000 (some c) < 1000 from hb c rfl)]; rfl
theorem c_X8_distance {w : Wd} {x : Nat} {G : Gme} (hX : RepX w x G) (y z : Int32) : MC 7 mX8_distance 1 6 [.ref x, .int y, .int z] w (GXo w x (gQ G (onB2 (gS G) y z (fun a b => opA (dS (gS G) a b))))) := by
  obtain ⟨hX0, hL, hV, ⟨S9, hW9⟩, ⟨K, hH⟩, hRt, hTr, ⟨p9, e9, m9, y1, y2, hD⟩, hOu, hB⟩ := id hX
  obtain ⟨x4, x5, x6, f1, f2, f3, f4, f5, f6, f7, f8, hO, ⟨k1, k2, k3, k4, k5, k6, k7, k8⟩, ⟨bc, ba, bo⟩, hlen, hlk, htr, hwf⟩ := id hL
  have hnb := hwf.nb
  have hnt := hwf.nt
  refine MC_j pnX8 rfl rfl rfl (Or.inl (by decide)) ?_
  show J 7 mX8_distance 0 [some (.ref x), some (.int y), some (.int z)] [] w 1 6 _
  refine J_aload_n dX8_distance_0 rfl rfl ?_
  refine J_iload_n dX8_distance_1 rfl rfl ?_
  refine J_needB rfl dX8_distance_2 (by decide) rfl hX (fun e => GXo_no (c := 0) (v := 0) (G' := G) (gQ_eq (onB2_n1 e)) (Fr.rf _ _ _) hX) (fun i e2 => ?_)
  obtain ⟨hi, rfl⟩ := vi_some (by omega) e2
  refine J_aload_n dX8_distance_5 rfl rfl ?_
  refine J_iload_n dX8_distance_6 rfl rfl ?_
  refine J_needB rfl dX8_distance_7 (by decide) rfl hX (fun e => GXo_no (c := 0) (v := 0) (G' := G) (gQ_eq (onB2_n2 e)) (Fr.rf _ _ _) hX) (fun j e7 => ?_)
  obtain ⟨hj, rfl⟩ := vi_some (by omega) e7
  refine J_aload_n dX8_distance_10 rfl rfl ?_
  refine J_getfield dX8_distance_11 fX8_32 hX0 rfl ?_
  refine J_aload_n dX8_distance_14 rfl rfl ?_
  refine J_getfield dX8_distance_15 fX8_12 hX0 rfl ?_
  refine J_iload_n dX8_distance_18 rfl rfl ?_
  refine K_callVp dX8_distance_19 YX6_measureByNearest kX8_138 (RepR.rc hRt) (c_X6_measureByNearest hRt hL (by omega) hi) rfl rfl (Nat.le_of_ble_eq_true rfl) (by decide) (fun v19 w19 q19 => ?_)
  obtain ⟨rfl, hrow⟩ := q19
  have hRR := Row.rr hRt hrow
  obtain ⟨hFq, fq, rC, hrq⟩ := hrow
  have hX0 := (hFq.1 _ (by omega)).trans hX0
  obtain ⟨g1q, g2q, g3q, rO, -⟩ := id hRR
  have hdl := dF_le hwf (s := i) hj
  refine J_aload_n dX8_distance_22 rfl rfl ?_
  refine J_getfield dX8_distance_23 fX8_32 hX0 rfl ?_
  refine J_getfield dX8_distance_26 fX8_142 rO rfl ?_
  refine J_iload_n dX8_distance_29 rfl rfl ?_
  refine K_iald (v := nI (dF 1000 (dS (gS G) i j))) dX8_distance_30 rC (by omega) (by decide) (hrq j hj) ?_
  refine J_sipush (v := nI 1000) dX8_distance_31 (by decide) ?_
  refine J_icmp_ge (tgt := 49) dX8_distance_34 (by decide) (fun h34 => ?_) (fun h34 => ?_)
  · skip
    have h34 := (nI_leI (by omega) (by omega)).mp h34
    refine J_iconst (v := (-1)) dX8_distance_49 (by decide) ?_
    rw [show (-1 : Int32) = oI (dS (gS G) i j) from (if_neg (by omega) : (if dF 1000 (dS (gS G) i j) < 1000 then nI (dF 1000 (dS (gS G) i j)) else -1) = -1).symm.trans (oI_dF (fun c hc => by have := dS_le hwf hj hc; omega))]
    exact J_found rfl dX8_distance_50 dX8_distance_53 rfl (by decide) rfl (fun c hc => by have := dS_le hwf hj hc; omega) (hX.rt hFq (by omega) (by omega) hRR) (hFq.wd (by omega) (by omega)) (onB2_ok e2 e7)
  · skip
    have h34 := mt (nI_leI (by omega) (by omega)).mpr h34
    refine J_aload_n dX8_distance_37 rfl rfl ?_
    refine J_getfield dX8_distance_38 fX8_32 hX0 rfl ?_
    refine J_getfield dX8_distance_41 fX8_142 rO rfl ?_
    refine J_iload_n dX8_distance_44 rfl rfl ?_
    refine K_iald (v := nI (dF 1000 (dS (gS G) i j))) dX8_distance_45 rC (by omega) (by decide) (hrq j hj) ?_
    refine J_goto (tgt := 50) dX8_distance_46 (by decide) ?_
    rw [show nI (dF 1000 (dS (gS G) i j)) = oI (dS (gS G) i j) from (if_pos (by omega) : (if dF 1000 (dS (gS G) i j) < 1000 then nI (dF 1000 (dS (gS G) i j)) else -1) = nI (dF 1000 (dS (gS G) i j))).symm.trans (oI_dF (fun c hc => by have := dS_le hwf hj hc; omega))]
    exact J_found rfl dX8_distance_50 dX8_distance_53 rfl (by decide) rfl (fun c hc => by have := dS_le hwf hj hc; omega) (hX.rt hFq (by omega) (by omega) hRR) (hFq.wd (by omega) (by omega)) (onB2_ok e2 e7)

theorem c_X8_distanceByRounds {w : Wd} {x : Nat} {G : Gme} (hX : RepX w x G) (y z : Int32) : MC 7 mX8_distanceByRounds 1 6 [.ref x, .int y, .int z] w (GXo w x (gQ G (onB2 (gS G) y z (fun a b => opA (dS (gS G) a b))))) := by
  obtain ⟨hX0, hL, hV, ⟨S9, hW9⟩, ⟨K, hH⟩, hRt, hTr, ⟨p9, e9, m9, y1, y2, hD⟩, hOu, hB⟩ := id hX
  obtain ⟨x4, x5, x6, f1, f2, f3, f4, f5, f6, f7, f8, hO, ⟨k1, k2, k3, k4, k5, k6, k7, k8⟩, ⟨bc, ba, bo⟩, hlen, hlk, htr, hwf⟩ := id hL
  have hnb := hwf.nb
  have hnt := hwf.nt
  refine MC_j pnX8 rfl rfl rfl (Or.inl (by decide)) ?_
  show J 7 mX8_distanceByRounds 0 [some (.ref x), some (.int y), some (.int z)] [] w 1 6 _
  refine J_aload_n dX8_distanceByRounds_0 rfl rfl ?_
  refine J_iload_n dX8_distanceByRounds_1 rfl rfl ?_
  refine J_needB rfl dX8_distanceByRounds_2 (by decide) rfl hX (fun e => GXo_no (c := 0) (v := 0) (G' := G) (gQ_eq (onB2_n1 e)) (Fr.rf _ _ _) hX) (fun i e2 => ?_)
  obtain ⟨hi, rfl⟩ := vi_some (by omega) e2
  refine J_aload_n dX8_distanceByRounds_5 rfl rfl ?_
  refine J_iload_n dX8_distanceByRounds_6 rfl rfl ?_
  refine J_needB rfl dX8_distanceByRounds_7 (by decide) rfl hX (fun e => GXo_no (c := 0) (v := 0) (G' := G) (gQ_eq (onB2_n2 e)) (Fr.rf _ _ _) hX) (fun j e7 => ?_)
  obtain ⟨hj, rfl⟩ := vi_some (by omega) e7
  refine J_aload_n dX8_distanceByRounds_10 rfl rfl ?_
  refine J_getfield dX8_distanceByRounds_11 fX8_32 hX0 rfl ?_
  refine J_aload_n dX8_distanceByRounds_14 rfl rfl ?_
  refine J_getfield dX8_distanceByRounds_15 fX8_12 hX0 rfl ?_
  refine J_iload_n dX8_distanceByRounds_18 rfl rfl ?_
  refine K_callVp dX8_distanceByRounds_19 YX6_measureByRounds kX8_145 (RepR.rc hRt) (c_X6_measureByRounds hRt hL (by omega) hi) rfl rfl (Nat.le_of_ble_eq_true rfl) (by decide) (fun v19 w19 q19 => ?_)
  obtain ⟨rfl, hrow⟩ := q19
  have hRR := Row.rr2 hRt hrow
  obtain ⟨hFq, fq, rC, hrq⟩ := hrow
  have hX0 := (hFq.1 _ (by omega)).trans hX0
  obtain ⟨g1q, g2q, g3q, rO, -⟩ := id hRR
  have hdl := dF_le hwf (s := i) hj
  refine J_aload_n dX8_distanceByRounds_22 rfl rfl ?_
  refine J_getfield dX8_distanceByRounds_23 fX8_32 hX0 rfl ?_
  refine J_getfield dX8_distanceByRounds_26 fX8_148 rO rfl ?_
  refine J_iload_n dX8_distanceByRounds_29 rfl rfl ?_
  refine K_iald (v := nI (dF 1000 (dS (gS G) i j))) dX8_distanceByRounds_30 rC (by omega) (by decide) (hrq j hj) ?_
  refine J_sipush (v := nI 1000) dX8_distanceByRounds_31 (by decide) ?_
  refine J_icmp_ge (tgt := 49) dX8_distanceByRounds_34 (by decide) (fun h34 => ?_) (fun h34 => ?_)
  · skip
    have h34 := (nI_leI (by omega) (by omega)).mp h34
    refine J_iconst (v := (-1)) dX8_distanceByRounds_49 (by decide) ?_
    rw [show (-1 : Int32) = oI (dS (gS G) i j) from (if_neg (by omega) : (if dF 1000 (dS (gS G) i j) < 1000 then nI (dF 1000 (dS (gS G) i j)) else -1) = -1).symm.trans (oI_dF (fun c hc => by have := dS_le hwf hj hc; omega))]
    exact J_found rfl dX8_distanceByRounds_50 dX8_distanceByRounds_53 rfl (by decide) rfl (fun c hc => by have := dS_le hwf hj hc; omega) (hX.rt hFq (by omega) (by omega) hRR) (hFq.wd (by omega) (by omega)) (onB2_ok e2 e7)
  · skip
    have h34 := mt (nI_leI (by omega) (by omega)).mpr h34
    refine J_aload_n dX8_distanceByRounds_37 rfl rfl ?_
    refine J_getfield dX8_distanceByRounds_38 fX8_32 hX0 rfl ?_
    refine J_getfield dX8_distanceByRounds_41 fX8_148 rO rfl ?_
    refine J_iload_n dX8_distanceByRounds_44 rfl rfl ?_
    refine K_iald (v := nI (dF 1000 (dS (gS G) i j))) dX8_distanceByRounds_45 rC (by omega) (by decide) (hrq j hj) ?_
    refine J_goto (tgt := 50) dX8_distanceByRounds_46 (by decide) ?_
    rw [show nI (dF 1000 (dS (gS G) i j)) = oI (dS (gS G) i j) from (if_pos (by omega) : (if dF 1000 (dS (gS G) i j) < 1000 then nI (dF 1000 (dS (gS G) i j)) else -1) = nI (dF 1000 (dS (gS G) i j))).symm.trans (oI_dF (fun c hc => by have := dS_le hwf hj hc; omega))]
    exact J_found rfl dX8_distanceByRounds_50 dX8_distanceByRounds_53 rfl (by decide) rfl (fun c hc => by have := dS_le hwf hj hc; omega) (hX.rt hFq (by omega) (by omega) hRR) (hFq.wd (by omega) (by omega)) (onB2_ok e2 e7)

theorem c_X8_partCount {w : Wd} {x : Nat} {G : Gme} (hX : RepX w x G) : MC 26 mX8_partCount 1 6 [.ref x] w (GXo w x (gQ G (ok0 (nI (pcN (gS G)))))) := by
  obtain ⟨hX0, hL, hV, ⟨S9, hW9⟩, ⟨K, hH⟩, hRt, hTr, ⟨p9, e9, m9, y1, y2, hD⟩, hOu, hB⟩ := id hX
  obtain ⟨x4, x5, x6, f1, f2, f3, f4, f5, f6, f7, f8, hO, ⟨k1, k2, k3, k4, k5, k6, k7, k8⟩, ⟨bc, ba, bo⟩, hlen, hlk, htr, hwf⟩ := id hL
  have hnb := hwf.nb
  have hnt := hwf.nt
  refine MC_j pnX8 rfl rfl rfl (Or.inr (fun E w h => GXo_ne E w h)) ?_
  show J 26 mX8_partCount 0 [some (.ref x)] [] w 1 6 _
  refine J_aload_n dX8_partCount_0 rfl rfl ?_
  refine J_getfield dX8_partCount_1 fX8_32 hX0 rfl ?_
  refine J_aload_n dX8_partCount_4 rfl rfl ?_
  refine J_getfield dX8_partCount_5 fX8_12 hX0 rfl ?_
  refine K_callV dX8_partCount_8 YX6_partsByWalks kX8_158 (RepR.rc hRt) (c_X6_partsByWalks hL) rfl rfl (Nat.le_of_ble_eq_true rfl) (by decide) ?_
  exact J_ireturn dX8_partCount_11 rfl rfl (GXo_ok (v := nI (pcN (gS G))) (G' := G) (rfl) rfl (Fr.rf w x (x + 126)) hX)

theorem c_X8_partCountByUnions {w : Wd} {x : Nat} {G : Gme} (hX : RepX w x G) : MC 5 mX8_partCountByUnions 1 6 [.ref x] w (GXo w x (gQ G (ok0 (nI (pcN (gS G)))))) := by
  obtain ⟨hX0, hL, hV, ⟨S9, hW9⟩, ⟨K, hH⟩, hRt, hTr, ⟨p9, e9, m9, y1, y2, hD⟩, hOu, hB⟩ := id hX
  obtain ⟨x4, x5, x6, f1, f2, f3, f4, f5, f6, f7, f8, hO, ⟨k1, k2, k3, k4, k5, k6, k7, k8⟩, ⟨bc, ba, bo⟩, hlen, hlk, htr, hwf⟩ := id hL
  have hnb := hwf.nb
  have hnt := hwf.nt
  refine MC_j pnX8 rfl rfl rfl (Or.inr (fun E w h => GXo_ne E w h)) ?_
  show J 5 mX8_partCountByUnions 0 [some (.ref x)] [] w 1 6 _
  refine J_aload_n dX8_partCountByUnions_0 rfl rfl ?_
  refine J_getfield dX8_partCountByUnions_1 fX8_32 hX0 rfl ?_
  refine J_aload_n dX8_partCountByUnions_4 rfl rfl ?_
  refine J_getfield dX8_partCountByUnions_5 fX8_12 hX0 rfl ?_
  refine K_callVp dX8_partCountByUnions_8 YX6_partsByUnions kX8_162 (RepR.rc hRt) (c_X6_partsByUnions hRt hL (by omega)) rfl rfl (Nat.le_of_ble_eq_true rfl) (by decide) (fun v8 w8 q8 => ?_)
  obtain ⟨rfl, hFq, hRq⟩ := q8
  exact J_ireturn dX8_partCountByUnions_11 rfl rfl (GXo_ok (v := nI (pcN (gS G))) (G' := G) (rfl) rfl (hFq.wd (by omega) (by omega)) (hX.rt hFq (by omega) (by omega) hRq))

theorem c_X8_deadlocked {w : Wd} {x : Nat} {G : Gme} (hX : RepX w x G) : MC 7 mX8_deadlocked 1 6 [.ref x] w (GXo w x (gQ G (ok0 (nI (stN (gS G)))))) := by
  obtain ⟨hX0, hL, hV, ⟨S9, hW9⟩, ⟨K, hH⟩, hRt, hTr, ⟨p9, e9, m9, y1, y2, hD⟩, hOu, hB⟩ := id hX
  obtain ⟨x4, x5, x6, f1, f2, f3, f4, f5, f6, f7, f8, hO, ⟨k1, k2, k3, k4, k5, k6, k7, k8⟩, ⟨bc, ba, bo⟩, hlen, hlk, htr, hwf⟩ := id hL
  have hnb := hwf.nb
  have hnt := hwf.nt
  refine MC_j pnX8 rfl rfl rfl (Or.inr (fun E w h => GXo_ne E w h)) ?_
  show J 7 mX8_deadlocked 0 [some (.ref x)] [] w 1 6 _
  refine J_aload_n dX8_deadlocked_0 rfl rfl ?_
  refine J_getfield dX8_deadlocked_1 fX8_39 hX0 rfl ?_
  refine J_aload_n dX8_deadlocked_4 rfl rfl ?_
  refine J_getfield dX8_deadlocked_5 fX8_12 hX0 rfl ?_
  refine K_callVp dX8_deadlocked_8 YX7_stuckByFollowing kX8_214 (RepT.rc hTr) (c_X7_stuckByFollowing hTr hL (by omega)) rfl rfl (Nat.le_of_ble_eq_true rfl) (by decide) (fun v8 w8 q8 => ?_)
  obtain ⟨rfl, hFq, hRq⟩ := q8
  exact J_ireturn dX8_deadlocked_11 rfl rfl (GXo_ok (v := nI (stN (gS G))) (G' := G) (rfl) rfl (hFq.wd (by omega) (by omega)) (hX.tr hFq (by omega) (by omega) hRq))

theorem c_X8_deadlockedByTable {w : Wd} {x : Nat} {G : Gme} (hX : RepX w x G) : MC 7 mX8_deadlockedByTable 1 6 [.ref x] w (GXo w x (gQ G (ok0 (nI (stN (gS G)))))) := by
  obtain ⟨hX0, hL, hV, ⟨S9, hW9⟩, ⟨K, hH⟩, hRt, hTr, ⟨p9, e9, m9, y1, y2, hD⟩, hOu, hB⟩ := id hX
  obtain ⟨x4, x5, x6, f1, f2, f3, f4, f5, f6, f7, f8, hO, ⟨k1, k2, k3, k4, k5, k6, k7, k8⟩, ⟨bc, ba, bo⟩, hlen, hlk, htr, hwf⟩ := id hL
  have hnb := hwf.nb
  have hnt := hwf.nt
  refine MC_j pnX8 rfl rfl rfl (Or.inr (fun E w h => GXo_ne E w h)) ?_
  show J 7 mX8_deadlockedByTable 0 [some (.ref x)] [] w 1 6 _
  refine J_aload_n dX8_deadlockedByTable_0 rfl rfl ?_
  refine J_getfield dX8_deadlockedByTable_1 fX8_39 hX0 rfl ?_
  refine J_aload_n dX8_deadlockedByTable_4 rfl rfl ?_
  refine J_getfield dX8_deadlockedByTable_5 fX8_12 hX0 rfl ?_
  refine K_callVp dX8_deadlockedByTable_8 YX7_stuckByTable kX8_217 (RepT.rc hTr) (c_X7_stuckByTable hTr hL (by omega)) rfl rfl (Nat.le_of_ble_eq_true rfl) (by decide) (fun v8 w8 q8 => ?_)
  obtain ⟨rfl, hFq, hRq⟩ := q8
  exact J_ireturn dX8_deadlockedByTable_11 rfl rfl (GXo_ok (v := nI (stN (gS G))) (G' := G) (rfl) rfl (hFq.wd (by omega) (by omega)) (hX.tr hFq (by omega) (by omega) hRq))

theorem c_X8_isConsistent {w : Wd} {x : Nat} {G : Gme} (hX : RepX w x G) : MC 26 mX8_isConsistent 1 6 [.ref x] w (GXo w x (gQ G (ok0 1))) := by
  obtain ⟨hX0, hL, hV, ⟨S9, hW9⟩, ⟨K, hH⟩, hRt, hTr, ⟨p9, e9, m9, y1, y2, hD⟩, hOu, hB⟩ := id hX
  have hwf := hL.wf
  have hnb := hwf.nb
  have hnt := hwf.nt
  refine MC_j pnX8 rfl rfl rfl (Or.inr (fun E w h => GXo_ne E w h)) ?_
  show J 26 mX8_isConsistent 0 [some (.ref x)] [] w 1 6 _
  refine J_aload_n dX8_isConsistent_0 rfl rfl ?_
  refine J_getfield dX8_isConsistent_1 fX8_32 hX0 rfl ?_
  refine J_aload_n dX8_isConsistent_4 rfl rfl ?_
  refine J_getfield dX8_isConsistent_5 fX8_12 hX0 rfl ?_
  refine K_callVp dX8_isConsistent_8 YX6_distancesAgree kX8_276 (RepR.rc hRt) (c_X6_distancesAgree hRt hL (by omega)) rfl rfl (Nat.le_of_ble_eq_true rfl) (by decide) (fun v8 w8 q8 => ?_)
  obtain ⟨rfl, hF8, hR8⟩ := q8
  have hX0 := (hF8.1 _ (by omega)).trans hX0
  have hL8 := hL.kept (fun j hj => hF8.1 _ (by omega))
  have hX8 := hX.rt hF8 (by omega) (by omega) hR8
  refine J_if_eq (tgt := 68) dX8_isConsistent_11 (by decide) (fun h11 => absurd h11 (by decide)) (fun h11 => ?_)
  refine J_aload_n dX8_isConsistent_14 rfl rfl ?_
  refine J_getfield dX8_isConsistent_15 fX8_32 hX0 rfl ?_
  refine J_aload_n dX8_isConsistent_18 rfl rfl ?_
  refine J_getfield dX8_isConsistent_19 fX8_12 hX0 rfl ?_
  refine K_callV dX8_isConsistent_22 YX6_partsByWalks kX8_158 (RepR.rc hR8) (c_X6_partsByWalks hL8) rfl rfl (Nat.le_of_ble_eq_true rfl) (by decide) ?_
  refine J_aload_n dX8_isConsistent_25 rfl rfl ?_
  refine J_getfield dX8_isConsistent_26 fX8_32 hX0 rfl ?_
  refine J_aload_n dX8_isConsistent_29 rfl rfl ?_
  refine J_getfield dX8_isConsistent_30 fX8_12 hX0 rfl ?_
  refine K_callVp dX8_isConsistent_33 YX6_partsByUnions kX8_162 (RepR.rc hR8) (c_X6_partsByUnions hR8 hL8 (by omega)) rfl rfl (Nat.le_of_ble_eq_true rfl) (by decide) (fun v33 w33 q33 => ?_)
  obtain ⟨rfl, hF33, hR33⟩ := q33
  have hX0 := (hF33.1 _ (by omega)).trans hX0
  have hL33 := hL8.kept (fun j hj => hF33.1 _ (by omega))
  have hX33 := hX8.rt hF33 (by omega) (by omega) hR33
  have hT33 := hX33.2.2.2.2.2.2.1
  refine J_icmp_ne (tgt := 68) dX8_isConsistent_36 (by decide) (fun h36 => absurd rfl h36) (fun h36 => ?_)
  refine J_aload_n dX8_isConsistent_39 rfl rfl ?_
  refine J_getfield dX8_isConsistent_40 fX8_39 hX0 rfl ?_
  refine J_aload_n dX8_isConsistent_43 rfl rfl ?_
  refine J_getfield dX8_isConsistent_44 fX8_12 hX0 rfl ?_
  refine K_callVp dX8_isConsistent_47 YX7_stuckByFollowing kX8_214 (RepT.rc hT33) (c_X7_stuckByFollowing hT33 hL33 (by omega)) rfl rfl (Nat.le_of_ble_eq_true rfl) (by decide) (fun v47 w47 q47 => ?_)
  obtain ⟨rfl, hF47, hT47⟩ := q47
  have hX0 := (hF47.1 _ (by omega)).trans hX0
  have hL47 := hL33.kept (fun j hj => hF47.1 _ (by omega))
  have hX47 := hX33.tr hF47 (by omega) (by omega) hT47
  refine J_aload_n dX8_isConsistent_50 rfl rfl ?_
  refine J_getfield dX8_isConsistent_51 fX8_39 hX0 rfl ?_
  refine J_aload_n dX8_isConsistent_54 rfl rfl ?_
  refine J_getfield dX8_isConsistent_55 fX8_12 hX0 rfl ?_
  refine K_callVp dX8_isConsistent_58 YX7_stuckByTable kX8_217 (RepT.rc hT47) (c_X7_stuckByTable hT47 hL47 (by omega)) rfl rfl (Nat.le_of_ble_eq_true rfl) (by decide) (fun v58 w58 q58 => ?_)
  obtain ⟨rfl, hF58, hT58⟩ := q58
  have hX0 := (hF58.1 _ (by omega)).trans hX0
  have hX58 := hX47.tr hF58 (by omega) (by omega) hT58
  refine J_icmp_ne (tgt := 68) dX8_isConsistent_61 (by decide) (fun h61 => absurd rfl h61) (fun h61 => ?_)
  refine J_iconst (v := nI 1) dX8_isConsistent_64 (by decide) ?_
  refine J_goto (tgt := 69) dX8_isConsistent_65 (by decide) ?_
  exact J_ireturn dX8_isConsistent_69 rfl rfl (GXo_ok (v := 1) (G' := G) (rfl) rfl ((((hF8.wd (by omega) (by omega)).tr hF33 (by omega) (by omega)).tr hF47 (by omega) (by omega)).tr hF58 (by omega) (by omega)) hX58)

end JFACE2

/-! THE CLASS: its questions -/
section JFACE2
theorem RepX.fc {w w' : Wd} {x : Nat} {G : Gme} {S' : St} (hX : RepX w x G) (f : F2 w w' (x + 19) (x + 115)) (hC : RepC w' (x + 19) S') (hT : RepT w' (x + 115)) : RepX w' x G ∧ Fr w w' x (x + 126) := by
  obtain ⟨h0, h1', h2', ⟨S9, h3⟩, ⟨K9, h4⟩, h5, h6, ⟨p, e, m, x1, x2, h7⟩, h8, h9⟩ := hX
  exact ⟨⟨(f.1 _ (by omega) (by omega)).trans h0, h1'.kept (fun j hj => f.1 _ (by omega) (by omega)), h2'.kept (fun j hj => f.1 _ (by omega) (by omega)), ⟨S', hC⟩, ⟨K9, h4.kp (fun j hj => f.1 _ (by omega) (by omega))⟩, h5.kp (fun j hj => f.1 _ (by omega) (by omega)), hT, ⟨p, e, m, x1, x2, h7.kp (fun j hj => f.1 _ (by omega) (by omega))⟩, h8.kp (fun j hj => f.1 _ (by omega) (by omega)), h9⟩, ⟨fun b hb => f.1 b (by omega) (by omega), f.2⟩⟩
theorem c_X8_ticksUntilArrival {w : Wd} {x : Nat} {G : Gme} (hX : RepX w x G) (y : Int32) : MC 8 mX8_ticksUntilArrival 1 6 [.ref x, .int y] w (GXo w x (gQ G (qArr (gS G) y))) := by
  obtain ⟨hX0, hL, hV, ⟨S9, hW9⟩, ⟨K, hH⟩, hRt, hTr, ⟨p9, e9, m9, y1, y2, hD⟩, hOu, hB⟩ := id hX
  obtain ⟨x4, x5, x6, f1, f2, f3, f4, f5, f6, f7, f8, hO, ⟨k1, k2, k3, k4, k5, k6, k7, k8⟩, ⟨bc, ba, bo⟩, hlen, hlk, htr, hwf⟩ := id hL
  have hnb := hwf.nb
  have hnt := hwf.nt
  refine MC_j pnX8 rfl rfl rfl (Or.inl (by decide)) ?_
  show J 8 mX8_ticksUntilArrival 0 [some (.ref x), some (.int y)] [] w 1 6 _
  refine J_aload_n dX8_ticksUntilArrival_0 rfl rfl ?_
  refine J_iload_n dX8_ticksUntilArrival_1 rfl rfl ?_
  refine J_needT rfl dX8_ticksUntilArrival_2 (by decide) rfl hX (fun e => GXo_no (c := 0) (v := 0) (G' := G) (gQ_eq (qArr_no1 e)) (Fr.rf _ _ _) hX) (fun i e2 => ?_)
  obtain ⟨hi, rfl⟩ := vi_some (by omega) e2
  refine J_aload_n dX8_ticksUntilArrival_5 rfl rfl ?_
  refine J_getfield dX8_ticksUntilArrival_6 fX8_12 hX0 rfl ?_
  refine J_getfield dX8_ticksUntilArrival_9 fX8_199 hO rfl ?_
  refine J_iload_n dX8_ticksUntilArrival_12 rfl rfl ?_
  refine K_iald (v := oI (sGo (gS G) i)) dX8_ticksUntilArrival_13 k6 (by omega) (by decide) (htr _ (by omega)).2.2.2.1 ?_
  refine J_iconst (v := (-1)) dX8_ticksUntilArrival_14 (by decide) ?_
  refine J_icmp_ne (tgt := 28) dX8_ticksUntilArrival_15 (by decide) (fun h15 => ?_) (fun h15 => ?_)
  · skip
    obtain ⟨k15, e15⟩ : ∃ k_, sGo (gS G) i = some k_ := by
      cases q : sGo (gS G) i with
      | none => exact absurd ((oI_m1 (sGo_b hwf (by omega))).mpr q) h15
      | some k_ => exact ⟨k_, rfl⟩
    refine J_aload_n dX8_ticksUntilArrival_28 rfl rfl ?_
    refine J_getfield dX8_ticksUntilArrival_29 fX8_19 hX0 rfl ?_
    refine J_aload_n dX8_ticksUntilArrival_32 rfl rfl ?_
    refine J_getfield dX8_ticksUntilArrival_33 fX8_12 hX0 rfl ?_
    refine K_callVp dX8_ticksUntilArrival_36 YX4_copyFrom kX8_236 (RepC.rc hW9) (c_X4_copyFrom hW9 hL (by omega)) rfl rfl (Nat.le_of_ble_eq_true rfl) (by decide) (fun v36 w36 q36 => ?_)
    obtain ⟨rfl, hC36, hF36⟩ := q36
    have hT36 := hTr.kp (fun j hj => hF36.1 _ (by omega))
    have hX0 := (hF36.1 _ (by omega)).trans hX0
    refine J_aload_n dX8_ticksUntilArrival_39 rfl rfl ?_
    refine J_getfield dX8_ticksUntilArrival_40 fX8_39 hX0 rfl ?_
    refine J_aload_n dX8_ticksUntilArrival_43 rfl rfl ?_
    refine J_getfield dX8_ticksUntilArrival_44 fX8_19 hX0 rfl ?_
    refine J_iload_n dX8_ticksUntilArrival_47 rfl rfl ?_
    refine K_callVp dX8_ticksUntilArrival_48 YX7_ticksToGoal kX8_239 (RepT.rc hT36) (c_X7_ticksToGoal hT36 hC36 (by omega) hi) rfl rfl (Nat.le_of_ble_eq_true rfl) (by decide) (fun v48 w48 q48 => ?_)
    obtain ⟨rfl, ⟨S48, hC48⟩, hT48, hF48⟩ := q48
    have hf2 : F2 w w48 (x + 19) (x + 115) := ((F2.rf w _ _).fr hF36 (Or.inl ⟨Nat.le_refl _, Nat.le_refl _⟩)).tr hF48
    obtain ⟨hX48, hFr48⟩ := hX.fc hf2 hC48 hT48
    exact J_found rfl dX8_ticksUntilArrival_51 dX8_ticksUntilArrival_54 rfl (by decide) rfl (fun k hk => by have := tta_lt hk; omega) hX48 hFr48 (qArr_ok e2 e15)
  · skip
    have e15 : sGo (gS G) i = none := (oI_m1 (sGo_b hwf (by omega))).mp h15
    exact J_throw thX8_ticksUntilArrival_18 (Nat.le_refl _) (Nat.le_refl _) (GXo_no (c := 4) (v := 0) (G' := G) (gQ_eq (qArr_no2 e2 e15)) (Fr.rf _ _ _) hX)

theorem c_X8_meanWaits {w : Wd} {x : Nat} {G : Gme} (hX : RepX w x G) : MC 6 mX8_meanWaits 1 6 [.ref x] w (fun r w' => Fr w w' x (x + 126) ∧ RepX w' x G ∧ ((sNt (gS G) = 0 ∧ r = .inr (exN 6)) ∨ (sNt (gS G) ≠ 0 ∧ r = .inl (some (.double (gMean (gS G))))))) := by
  obtain ⟨hX0, hL, hV, ⟨S9, hW9⟩, ⟨K, hH⟩, hRt, hTr, ⟨p9, e9, m9, y1, y2, hD⟩, hOu, hB⟩ := id hX
  obtain ⟨x4, x5, x6, f1, f2, f3, f4, f5, f6, f7, f8, hO, ⟨k1, k2, k3, k4, k5, k6, k7, k8⟩, ⟨bc, ba, bo⟩, hlen, hlk, htr, hwf⟩ := id hL
  have hnb := hwf.nb
  have hnt := hwf.nt
  refine MC_j pnX8 rfl rfl rfl (Or.inl (by decide)) ?_
  show J 6 mX8_meanWaits 0 [some (.ref x)] [] w 1 6 _
  refine J_aload_n dX8_meanWaits_0 rfl rfl ?_
  refine J_getfield dX8_meanWaits_1 fX8_12 hX0 rfl ?_
  refine J_getfield dX8_meanWaits_4 fX8_187 hO rfl ?_
  refine J_if_ne (tgt := 20) dX8_meanWaits_7 (by decide) (fun h7 => ?_) (fun h7 => ?_)
  · skip
    have h7 := mt (nI_eq (b := 0) (by omega) (by omega)).mpr h7
    refine J_aload_n dX8_meanWaits_20 rfl rfl ?_
    refine J_getfield dX8_meanWaits_21 fX8_12 hX0 rfl ?_
    refine K_callV dX8_meanWaits_24 YX4_allWaits kX8_247 (RepC.rc hL) (c_X4_allWaits hL) rfl rfl (Nat.le_of_ble_eq_true rfl) (by decide) ?_
    refine J_i2d dX8_meanWaits_27 ?_
    refine J_aload_n dX8_meanWaits_28 rfl rfl ?_
    refine J_getfield dX8_meanWaits_29 fX8_12 hX0 rfl ?_
    refine J_getfield dX8_meanWaits_32 fX8_187 hO rfl ?_
    refine J_i2d dX8_meanWaits_35 ?_
    refine J_ddiv dX8_meanWaits_36 (mean_n hwf h7) ?_
    exact J_dreturn dX8_meanWaits_37 rfl ⟨Fr.rf _ _ _, hX, Or.inr ⟨h7, rfl⟩⟩
  · skip
    have h7 := (nI_eq (b := 0) (by omega) (by omega)).mp h7
    exact J_throw thX8_meanWaits_10 (Nat.le_refl _) (Nat.le_refl _) ⟨Fr.rf _ _ _, hX, Or.inl ⟨h7, rfl⟩⟩

theorem c_X8_occupiedFraction {w : Wd} {x : Nat} {G : Gme} (hX : RepX w x G) : MC 6 mX8_occupiedFraction 1 6 [.ref x] w (fun r w' => Fr w w' x (x + 126) ∧ RepX w' x G ∧ ((sNb (gS G) = 0 ∧ r = .inr (exN 6)) ∨ (sNb (gS G) ≠ 0 ∧ r = .inl (some (.float (gOcc (gS G))))))) := by
  obtain ⟨hX0, hL, hV, ⟨S9, hW9⟩, ⟨K, hH⟩, hRt, hTr, ⟨p9, e9, m9, y1, y2, hD⟩, hOu, hB⟩ := id hX
  obtain ⟨x4, x5, x6, f1, f2, f3, f4, f5, f6, f7, f8, hO, ⟨k1, k2, k3, k4, k5, k6, k7, k8⟩, ⟨bc, ba, bo⟩, hlen, hlk, htr, hwf⟩ := id hL
  have hnb := hwf.nb
  have hnt := hwf.nt
  refine MC_j pnX8 rfl rfl rfl (Or.inl (by decide)) ?_
  show J 6 mX8_occupiedFraction 0 [some (.ref x)] [] w 1 6 _
  refine J_aload_n dX8_occupiedFraction_0 rfl rfl ?_
  refine J_getfield dX8_occupiedFraction_1 fX8_12 hX0 rfl ?_
  refine J_getfield dX8_occupiedFraction_4 fX8_93 hO rfl ?_
  refine J_if_ne (tgt := 20) dX8_occupiedFraction_7 (by decide) (fun h7 => ?_) (fun h7 => ?_)
  · skip
    have h7 := mt (nI_eq (b := 0) (by omega) (by omega)).mpr h7
    refine J_aload_n dX8_occupiedFraction_20 rfl rfl ?_
    refine J_getfield dX8_occupiedFraction_21 fX8_12 hX0 rfl ?_
    refine J_getfield dX8_occupiedFraction_24 fX8_187 hO rfl ?_
    refine J_i2f dX8_occupiedFraction_27 ?_
    refine J_aload_n dX8_occupiedFraction_28 rfl rfl ?_
    refine J_getfield dX8_occupiedFraction_29 fX8_12 hX0 rfl ?_
    refine J_getfield dX8_occupiedFraction_32 fX8_93 hO rfl ?_
    refine J_i2f dX8_occupiedFraction_35 ?_
    refine J_fdiv dX8_occupiedFraction_36 (occ_n hwf h7).1 ?_
    exact J_freturn dX8_occupiedFraction_37 rfl ⟨Fr.rf _ _ _, hX, Or.inr ⟨h7, rfl⟩⟩
  · skip
    have h7 := (nI_eq (b := 0) (by omega) (by omega)).mp h7
    exact J_throw thX8_occupiedFraction_10 (Nat.le_refl _) (Nat.le_refl _) ⟨Fr.rf _ _ _, hX, Or.inl ⟨h7, rfl⟩⟩

end JFACE2

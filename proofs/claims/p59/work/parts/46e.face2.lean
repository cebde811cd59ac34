/-! THE CLASS: its questions -/
section JFACE2
theorem narF : ∀ c, c < 65536 → vp_nar .char (nI c) = nI c := by
  intro c hc
  show ((nI c).toUInt32 % 65536).toInt32 = nI c
  apply Int32.toInt_inj.mp
  have h1 : (nI c).toUInt32 = UInt32.ofNat c := rfl
  rw [h1]
  have h2 : UInt32.ofNat c % 65536 = UInt32.ofNat c := by
    apply UInt32.toNat_inj.mp
    rw [UInt32.toNat_mod]
    have : (UInt32.ofNat c).toNat = c := by simp; omega
    rw [this]
    show c % 65536 = c
    omega
  rw [h2]
  rfl
theorem RepX.rd {w w' : Wd} {x : Nat} {G G' : Gme} {p : Nat} {e : Bool} {m : Nat} {x1 x2 : Int32} (hX : RepX w x G) (f : Fr w w' (x + 122) (x + 124)) (hD : RepD w' (x + 122) (gT G') (gN G') p e m x1 x2) (h1 : G'.1 = G.1) (h2 : G'.2.1 = G.2.1) (h3 : gO G' = gO G) (h4 : G'.2.2.2.2 = G.2.2.2.2) : RepX w' x G' := by
  obtain ⟨⟨a1, a2, a3⟩, ⟨b1, b2⟩, c1, ⟨d1, d2⟩, ⟨e1, e2⟩⟩ := G'
  obtain ⟨⟨A1, A2, A3⟩, ⟨B1, B2⟩, C1, ⟨D1, D2⟩, ⟨E1, E2⟩⟩ := G
  cases h1
  cases h2
  cases h3
  cases h4
  obtain ⟨h0, h1', h2', ⟨S9, h3⟩, ⟨K9, h4⟩, h5, h6, -, h8, h9⟩ := hX
  exact ⟨(f.1 _ (by omega)).trans h0, h1'.kept (fun j hj => f.1 _ (by omega)), h2'.kept (fun j hj => f.1 _ (by omega)), ⟨S9, h3.kept (fun j hj => f.1 _ (by omega))⟩, ⟨K9, h4.kp (fun j hj => f.1 _ (by omega))⟩, h5.kp (fun j hj => f.1 _ (by omega)), h6.kp (fun j hj => f.1 _ (by omega)), ⟨_, _, _, _, _, hD⟩, h8.kp (fun j hj => f.1 _ (by omega)), h9⟩
theorem c_X8_feed {w : Wd} {x : Nat} {G : Gme} (hX : RepX w x G) {c : Nat} (hc : c < 65536) : MC 6 mX8_feed 1 6 [.ref x, .int (nI c)] w (GXo w x (gFeed G c)) := by
  obtain ⟨hX0, hL, hV, ⟨S9, hW9⟩, ⟨K, hH⟩, hRt, hTr, ⟨p9, e9, m9, y1, y2, hD⟩, hOu, hB⟩ := id hX
  have hwf := hL.wf
  have hnb := hwf.nb
  have hnt := hwf.nt
  refine MC_j pnX8 rfl rfl rfl (Or.inl (by decide)) ?_
  show J 6 mX8_feed 0 [some (.ref x), some (.int (nI c))] [] w 1 6 _
  refine J_aload_n dX8_feed_0 rfl rfl ?_
  refine J_getfield dX8_feed_1 fX8_46 hX0 rfl ?_
  refine J_iload_n dX8_feed_4 rfl rfl ?_
  refine K_callVp dX8_feed_5 YX2_append kX8_280 (RepD.rc hD) (c_X2_append hD hc (narF c hc)) rfl rfl (Nat.le_of_ble_eq_true rfl) (by decide) (fun v5 w5 q5 => ?_)
  rcases q5 with ⟨rfl, h60, rfl⟩ | ⟨rfl, h60, hF5, hD5⟩
  · refine J_if_ne (tgt := 22) dX8_feed_8 (by decide) (fun h => absurd rfl h) (fun h => ?_)
    exact J_throw thX8_feed_11 (Nat.le_refl _) (Nat.le_refl _) (GXo_no (c := 2) (v := 0) (G' := G) (feed_60 h60) (Fr.rf _ _ _) hX)
  · refine J_if_ne (tgt := 22) dX8_feed_8 (by decide) (fun h => ?_) (fun h => absurd h (by decide))
    have hX0 := (hF5.1 _ (by omega)).trans hX0
    obtain ⟨fd, hdO, -⟩ := id hD5
    refine J_aload_n dX8_feed_22 rfl rfl ?_
    refine J_getfield dX8_feed_23 fX8_46 hX0 rfl ?_
    refine J_getfield dX8_feed_26 fX8_289 hdO rfl ?_
    exact J_ireturn dX8_feed_29 rfl rfl (GXo_ok (v := nI (gN G + 1)) (G' := (G.1, G.2.1, gO G, (va_up (gT G) (gN G) c, gN G + 1), G.2.2.2.2)) (feed_ok (by omega)) rfl (hF5.wd (by omega) (by omega)) (hX.rd hF5 hD5 rfl rfl rfl rfl))

theorem RepX.un {w w' : Wd} {x : Nat} {G : Gme} {S' V' : St} {b' : Bool} {P : Nat → St} {ct : Nat} {K : St} (hX : RepX w x G) (f : ∀ b : Nat, b ≠ x → b ≠ x + 28 → (b < x + 1 ∨ x + 19 ≤ b) → w'.1 b = w.1 b) (h0' : w'.1 x = xCell x ((S', V', b'), (P, ct), G.2.2)) (hC : RepC w' (x + 1) S') (hV : RepC w' (x + 10) V') (hH : RepH w' (x + 28) P ct K) : RepX w' x ((S', V', b'), (P, ct), G.2.2) := by
  obtain ⟨h0, h1', h2', ⟨S9, h3⟩, ⟨K9, h4⟩, h5, h6, ⟨p, e, m, x1, x2, h7⟩, h8, h9⟩ := hX
  exact ⟨h0', hC, hV, ⟨S9, h3.kept (fun j hj => f _ (by omega) (by omega) (by omega))⟩, ⟨K, hH⟩, h5.kp (fun j hj => f _ (by omega) (by omega) (by omega)), h6.kp (fun j hj => f _ (by omega) (by omega) (by omega)), ⟨p, e, m, x1, x2, h7.kp (fun j hj => f _ (by omega) (by omega) (by omega))⟩, h8.kp (fun j hj => f _ (by omega) (by omega) (by omega)), h9⟩
theorem c_X8_undo {w : Wd} {x : Nat} {G : Gme} (hX : RepX w x G) : MC 6 mX8_undo 1 6 [.ref x] w (GXo w x (gUndo G)) := by
  obtain ⟨hX0, hL, hV, ⟨S9, hW9⟩, ⟨K, hH⟩, hRt, hTr, ⟨p9, e9, m9, y1, y2, hD⟩, hOu, hB⟩ := id hX
  have hwf := hL.wf
  have hnb := hwf.nb
  have hnt := hwf.nt
  obtain ⟨nx9, sl9, f9, hHo, -, -, -, ⟨-, hc9⟩, -⟩ := id hH
  refine MC_j pnX8 rfl rfl rfl (Or.inl (by decide)) ?_
  show J 6 mX8_undo 0 [some (.ref x)] [] w 1 6 _
  refine J_aload_n dX8_undo_0 rfl rfl ?_
  refine J_getfield dX8_undo_1 fX8_25 hX0 rfl ?_
  refine J_getfield dX8_undo_4 fX8_328 hHo rfl ?_
  refine J_if_ne (tgt := 21) dX8_undo_7 (by decide) (fun h7 => ?_) (fun h7 => ?_)
  · skip
    have h7 := mt (nI_eq (b := 0) (by omega) (by omega)).mpr h7
    refine J_aload_n dX8_undo_21 rfl rfl ?_
    refine J_getfield dX8_undo_22 fX8_25 hX0 rfl ?_
    refine J_aload_n dX8_undo_25 rfl rfl ?_
    refine J_getfield dX8_undo_26 fX8_12 hX0 rfl ?_
    refine K_callVp dX8_undo_29 YX3_stepBack kX8_333 (RepH.rc hH) (c_X3_stepBack hH hL (by omega) (by omega)) rfl rfl (Nat.le_of_ble_eq_true rfl) (by decide) (fun v29 w29 q29 => ?_)
    obtain ⟨rfl, hFu, hFu2, hCu, Ku, hHu⟩ := q29
    exact J_ireturn dX8_undo_32 rfl rfl (GXo_ok (v := nI (gC G - 1)) (G' := ((gP G (gC G - 1), gV G, gH G), (gP G, gC G - 1), G.2.2)) (undo_ok h7) rfl ⟨fun b hb => hFu b (by omega) (by omega), hFu2⟩ (hX.un (fun b a1 a2 a3 => hFu b a2 (by omega)) ((hFu _ (by omega) (by omega)).trans hX0) hCu (hV.kept (fun j hj => hFu _ (by omega) (by omega))) hHu))
  · skip
    have h7 := (nI_eq (b := 0) (by omega) (by omega)).mp h7
    exact J_throw thX8_undo_10 (Nat.le_refl _) (Nat.le_refl _) (GXo_no (c := 2) (v := 0) (G' := G) (undo_no h7) (Fr.rf _ _ _) hX)

theorem c_X8_save {w : Wd} {x : Nat} {G : Gme} (hX : RepX w x G) : MC 3 mX8_save 1 6 [.ref x] w (GXo w x (gSave G)) := by
  obtain ⟨hX0, hL, hV, ⟨S9, hW9⟩, ⟨K, hH⟩, hRt, hTr, ⟨p9, e9, m9, y1, y2, hD⟩, hOu, hB⟩ := id hX
  obtain ⟨x4, x5, x6, f1, f2, f3, f4, f5, f6, f7, f8, hO, ⟨k1, k2, k3, k4, k5, k6, k7, k8⟩, ⟨bc, ba, bo⟩, hlen, hlk, htr, hwf⟩ := id hL
  have hnb := hwf.nb
  have hnt := hwf.nt
  refine MC_j pnX8 rfl rfl rfl (Or.inr (fun E w h => h.2.2.elim (fun z => by cases z.2) (fun z => z.1 rfl))) ?_
  show J 3 mX8_save 0 [some (.ref x)] [] w 1 6 _
  refine J_aload_n dX8_save_0 rfl rfl ?_
  refine J_getfield dX8_save_1 fX8_16 hX0 rfl ?_
  refine J_aload_n dX8_save_4 rfl rfl ?_
  refine J_getfield dX8_save_5 fX8_12 hX0 rfl ?_
  refine K_callVp dX8_save_8 YX4_copyFrom kX8_236 (RepC.rc hV) (c_X4_copyFrom hV hL (by omega)) rfl rfl (Nat.le_of_ble_eq_true rfl) (by decide) (fun v8 w8 q8 => ?_)
  obtain ⟨rfl, hC8, hF8⟩ := q8
  have hO := (hF8.1 _ (by omega)).trans hO
  have hX0 := (hF8.1 _ (by omega)).trans hX0
  have k1 := (hF8.1 _ (by omega)).trans k1
  have k2 := (hF8.1 _ (by omega)).trans k2
  have k3 := (hF8.1 _ (by omega)).trans k3
  have k4 := (hF8.1 _ (by omega)).trans k4
  have k5 := (hF8.1 _ (by omega)).trans k5
  have k6 := (hF8.1 _ (by omega)).trans k6
  have k7 := (hF8.1 _ (by omega)).trans k7
  have k8 := (hF8.1 _ (by omega)).trans k8
  refine J_aload_n dX8_save_11 rfl rfl ?_
  refine J_iconst (v := nI 1) dX8_save_12 (by decide) ?_
  refine K_putZ dX8_save_13 fX8_57 (Or.inl rfl) hX0 (Nat.le_of_ble_eq_true rfl) (Or.inr rfl) (fun w1 u1 => ?_)
  have hO := (u1.2.1 _ (by omega)).trans hO
  have hX0 := u1.1
  have k1 := (u1.2.1 _ (by omega)).trans k1
  have k2 := (u1.2.1 _ (by omega)).trans k2
  have k3 := (u1.2.1 _ (by omega)).trans k3
  have k4 := (u1.2.1 _ (by omega)).trans k4
  have k5 := (u1.2.1 _ (by omega)).trans k5
  have k6 := (u1.2.1 _ (by omega)).trans k6
  have k7 := (u1.2.1 _ (by omega)).trans k7
  have k8 := (u1.2.1 _ (by omega)).trans k8
  have hX0 : w1.1 x = .inr (8, [.ref (x + 1), .ref (x + 10), .ref (x + 19), .ref (x + 28), .ref (x + 111), .ref (x + 115), .ref (x + 122), .ref (x + 124), .int (b2i true), .int (oI (gE G)), .int (oI (gF G))]) := hX0
  refine J_aload_n dX8_save_16 rfl rfl ?_
  refine J_getfield dX8_save_17 fX8_12 hX0 rfl ?_
  refine J_getfield dX8_save_20 fX8_93 hO rfl ?_
  exact J_ireturn dX8_save_23 rfl rfl (GXo_ok (v := nI (sNb (gS G))) (G' := ((gS G, gS G, true), G.2)) rfl rfl ((hF8.wd (by omega) (by omega)).up u1 (by omega) (by omega)) (hX.un (G := G) (P := gP G) (ct := gC G) (fun b a1 a2 a3 => (u1.2.1 b a1).trans (hF8.1 b (by omega))) hX0 (hL.kept (fun j hj => (u1.2.1 _ (by omega)).trans (hF8.1 _ (by omega)))) (hC8.kept (fun j hj => u1.2.1 _ (by omega))) (hH.kp (fun j hj => (u1.2.1 _ (by omega)).trans (hF8.1 _ (by omega))))))

theorem c_X8_restore {w : Wd} {x : Nat} {G : Gme} (hX : RepX w x G) : MC 6 mX8_restore 1 6 [.ref x] w (GXo w x (gRest G)) := by
  obtain ⟨hX0, hL, hV, ⟨S9, hW9⟩, ⟨K, hH⟩, hRt, hTr, ⟨p9, e9, m9, y1, y2, hD⟩, hOu, hB⟩ := id hX
  have hwf := hL.wf
  have hnb := hwf.nb
  have hnt := hwf.nt
  refine MC_j pnX8 rfl rfl rfl (Or.inl (by decide)) ?_
  show J 6 mX8_restore 0 [some (.ref x)] [] w 1 6 _
  refine J_aload_n dX8_restore_0 rfl rfl ?_
  refine J_getfield dX8_restore_1 fX8_57 hX0 rfl ?_
  refine J_if_ne (tgt := 18) dX8_restore_4 (by decide) (fun h4 => ?_) (fun h4 => ?_)
  · skip
    have e4 : gH G = true := b2i_ne.mp h4
    refine J_aload_n dX8_restore_18 rfl rfl ?_
    refine J_getfield dX8_restore_19 fX8_12 hX0 rfl ?_
    refine J_aload_n dX8_restore_22 rfl rfl ?_
    refine J_getfield dX8_restore_23 fX8_16 hX0 rfl ?_
    refine K_callVp dX8_restore_26 YX4_copyFrom kX8_236 (RepC.rc hL) (c_X4_copyFrom hL hV (by omega)) rfl rfl (Nat.le_of_ble_eq_true rfl) (by decide) (fun v26 w26 q26 => ?_)
    obtain ⟨rfl, hC26, hF26⟩ := q26
    have hX0 := (hF26.1 _ (by omega)).trans hX0
    have hH26 := hH.kp (fun j hj => hF26.1 _ (by omega))
    refine J_aload_n dX8_restore_29 rfl rfl ?_
    refine J_getfield dX8_restore_30 fX8_25 hX0 rfl ?_
    refine K_callVp dX8_restore_33 YX3_forget kX8_338 (RepH.rc hH26) (c_X3_forget hH26) rfl rfl (Nat.le_of_ble_eq_true rfl) (by decide) (fun v33 w33 q33 => ?_)
    obtain ⟨rfl, hF33, hH33⟩ := q33
    have hX0 := (hF33.1 _ (by omega)).trans hX0
    have hC33 := hC26.kept (fun j hj => hF33.1 _ (by omega))
    obtain ⟨q4, q5, q6, r1, r2, r3, r4, r5, r6, r7, r8, hO, -⟩ := id hC33
    refine J_aload_n dX8_restore_36 rfl rfl ?_
    refine J_getfield dX8_restore_37 fX8_12 hX0 rfl ?_
    refine J_getfield dX8_restore_40 fX8_93 hO rfl ?_
    exact J_ireturn dX8_restore_43 rfl rfl (GXo_ok (v := nI (sNb (gV G))) (G' := ((gV G, gV G, gH G), (gP G, 0), G.2.2)) (rest_ok e4) rfl ((hF26.wd (by omega) (by omega)).tr hF33 (by omega) (by omega)) (hX.un (fun b a1 a2 a3 => (hF33.1 b (by omega)).trans (hF26.1 b (by omega))) hX0 hC33 (hV.kept (fun j hj => (hF33.1 _ (by omega)).trans (hF26.1 _ (by omega)))) hH33))
  · skip
    have e4 : gH G = false := b2i_eq.mp h4
    exact J_throw thX8_restore_7 (Nat.le_refl _) (Nat.le_refl _) (GXo_no (c := 2) (v := 0) (G' := G) (rest_no e4) (Fr.rf _ _ _) hX)

end JFACE2

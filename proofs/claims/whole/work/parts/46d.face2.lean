/-! THE CLASS: its questions -/
section JFACE2
theorem gTrn_no {G : Gme} {y : Int32} (e : vi (sNt (gS G)) y = none) : gTrn G y = (0 + 1, 0, G) := by unfold gTrn; rw [e]
theorem mk_le (c k : Nat) : (markL c k).length ≤ 3 := by unfold markL; split <;> simp
theorem mk_2 (c : Nat) {k : Nat} (h : k < 10) : (markL c k).length = 2 := by unfold markL; rw [if_neg (by omega)]; rfl
set_option maxRecDepth 8192 in
theorem c_X8_writeTrain {w : Wd} {x : Nat} {G : Gme} (hX : RepX w x G) (y : Int32) : MC 7 mX8_writeTrain 1 6 [.ref x, .int y] w (GXo w x (gTrn G y)) := by
  obtain ⟨hX0, hL, hV, ⟨S9, hW9⟩, ⟨K, hH⟩, hRt, hTr, ⟨p9, e9, m9, y1, y2, hD⟩, hOu, hB⟩ := id hX
  obtain ⟨x4, x5, x6, f1, f2, f3, f4, f5, f6, f7, f8, hO, ⟨k1, k2, k3, k4, k5, k6, k7, k8⟩, ⟨bc, ba, bo⟩, hlen, hlk, htr, hwf⟩ := id hL
  have hnb := hwf.nb
  have hnt := hwf.nt
  refine MC_j pnX8 rfl rfl rfl (Or.inl (by decide)) ?_
  show J 7 mX8_writeTrain 0 [some (.ref x), some (.int y)] [] w 1 6 _
  refine J_aload_n dX8_writeTrain_0 rfl rfl ?_
  refine J_iload_n dX8_writeTrain_1 rfl rfl ?_
  refine J_needT (mi := mX8_writeTrain) (pc := 2) rfl dX8_writeTrain_2 (by decide) rfl hX (fun e => GXo_no (c := 0) (v := 0) (G' := G) (gTrn_no e) (Fr.rf _ _ _) hX) (fun i e2 => ?_)
  obtain ⟨hi, rfl⟩ := vi_some (by omega) e2
  have hpt := hwf.2.2.2.2.1 i hi
  refine J_aload_n dX8_writeTrain_5 rfl rfl ?_
  refine J_getfield dX8_writeTrain_6 fX8_53 hX0 rfl ?_
  refine K_callVp dX8_writeTrain_9 YX5_clear kX8_253 (RepO.rc hOu) (c_X5_clear hOu) rfl rfl (Nat.le_of_ble_eq_true rfl) (by decide) (fun v9 w9 q9 => ?_)
  obtain ⟨rfl, hFo9, hOo9⟩ := q9
  have hO := (hFo9.1 _ (by omega)).trans hO
  have hX0 := (hFo9.1 _ (by omega)).trans hX0
  have k1 := (hFo9.1 _ (by omega)).trans k1
  have k2 := (hFo9.1 _ (by omega)).trans k2
  have k3 := (hFo9.1 _ (by omega)).trans k3
  have k4 := (hFo9.1 _ (by omega)).trans k4
  have k5 := (hFo9.1 _ (by omega)).trans k5
  have k6 := (hFo9.1 _ (by omega)).trans k6
  have k7 := (hFo9.1 _ (by omega)).trans k7
  have k8 := (hFo9.1 _ (by omega)).trans k8
  refine J_aload_n dX8_writeTrain_12 rfl rfl ?_
  refine J_getfield dX8_writeTrain_13 fX8_53 hX0 rfl ?_
  refine J_bipush (v := nI 84) dX8_writeTrain_16 (by decide) ?_
  refine J_iload_n dX8_writeTrain_18 rfl rfl ?_
  refine K_callVp dX8_writeTrain_19 YX5_putMarked kX8_256 (RepO.rc hOo9) (c_X5_putMarked hOo9 (by omega) (show i < 100 by omega) (by have a1 := mk_le 84 i; have a2 := mk_le 64 (sPl (gS G) i); have a3 := mk_le 43 (sRe (gS G) i);  have b1 : (markL 84 i).length = 2 := mk_2 84 (by omega); have b3 : sRe (gS G) i < 10 → (markL 43 (sRe (gS G) i)).length = 2 := fun z => mk_2 43 z; simp only [List.length_append, List.length_cons, List.length_nil]; omega)) rfl rfl (Nat.le_of_ble_eq_true rfl) (by decide) (fun v19 w19 q19 => ?_)
  obtain ⟨rfl, hFo19, hOo19⟩ := q19
  have hO := (hFo19.1 _ (by omega)).trans hO
  have hX0 := (hFo19.1 _ (by omega)).trans hX0
  have k1 := (hFo19.1 _ (by omega)).trans k1
  have k2 := (hFo19.1 _ (by omega)).trans k2
  have k3 := (hFo19.1 _ (by omega)).trans k3
  have k4 := (hFo19.1 _ (by omega)).trans k4
  have k5 := (hFo19.1 _ (by omega)).trans k5
  have k6 := (hFo19.1 _ (by omega)).trans k6
  have k7 := (hFo19.1 _ (by omega)).trans k7
  have k8 := (hFo19.1 _ (by omega)).trans k8
  refine J_aload_n dX8_writeTrain_22 rfl rfl ?_
  refine J_getfield dX8_writeTrain_23 fX8_53 hX0 rfl ?_
  refine J_bipush (v := nI 64) dX8_writeTrain_26 (by decide) ?_
  refine J_aload_n dX8_writeTrain_28 rfl rfl ?_
  refine J_getfield dX8_writeTrain_29 fX8_12 hX0 rfl ?_
  refine J_getfield dX8_writeTrain_32 fX8_190 hO rfl ?_
  refine J_iload_n dX8_writeTrain_35 rfl rfl ?_
  have q36a := hwf.2.2.2.2.1 i (by omega)
  refine K_iald (v := nI (sPl (gS G) i)) dX8_writeTrain_36 k3 (by omega) (by decide) (htr _ (by omega)).1 ?_
  refine K_callVp dX8_writeTrain_37 YX5_putMarked kX8_256 (RepO.rc hOo19) (c_X5_putMarked hOo19 (by omega) (show sPl (gS G) i < 100 by omega) (by have a1 := mk_le 84 i; have a2 := mk_le 64 (sPl (gS G) i); have a3 := mk_le 43 (sRe (gS G) i);  have b1 : (markL 84 i).length = 2 := mk_2 84 (by omega); have b3 : sRe (gS G) i < 10 → (markL 43 (sRe (gS G) i)).length = 2 := fun z => mk_2 43 z; simp only [List.length_append, List.length_cons, List.length_nil]; omega)) rfl rfl (Nat.le_of_ble_eq_true rfl) (by decide) (fun v37 w37 q37 => ?_)
  obtain ⟨rfl, hFo37, hOo37⟩ := q37
  have hO := (hFo37.1 _ (by omega)).trans hO
  have hX0 := (hFo37.1 _ (by omega)).trans hX0
  have k1 := (hFo37.1 _ (by omega)).trans k1
  have k2 := (hFo37.1 _ (by omega)).trans k2
  have k3 := (hFo37.1 _ (by omega)).trans k3
  have k4 := (hFo37.1 _ (by omega)).trans k4
  have k5 := (hFo37.1 _ (by omega)).trans k5
  have k6 := (hFo37.1 _ (by omega)).trans k6
  have k7 := (hFo37.1 _ (by omega)).trans k7
  have k8 := (hFo37.1 _ (by omega)).trans k8
  refine J_aload_n dX8_writeTrain_40 rfl rfl ?_
  refine J_getfield dX8_writeTrain_41 fX8_12 hX0 rfl ?_
  refine J_getfield dX8_writeTrain_44 fX8_196 hO rfl ?_
  refine J_iload_n dX8_writeTrain_47 rfl rfl ?_
  have q48a := hwf.2.2.2.2.1 i (by omega)
  refine K_iald (v := nI (sRe (gS G) i)) dX8_writeTrain_48 k5 (by omega) (by decide) (htr _ (by omega)).2.2.1 ?_
  refine J_if_le (tgt := 70) dX8_writeTrain_49 (by decide) (fun h49 => ?_) (fun h49 => ?_)
  · skip
    have h49 := (nI_leI (b := 0) (by omega) (by omega)).mp h49
    have h49 : sRe (gS G) i = 0 := by omega
    refine J_aload_n dX8_writeTrain_70 rfl rfl ?_
    refine J_getfield dX8_writeTrain_71 fX8_12 hX0 rfl ?_
    refine J_getfield dX8_writeTrain_74 fX8_199 hO rfl ?_
    refine J_iload_n dX8_writeTrain_77 rfl rfl ?_
    refine K_iald (v := oI (sGo (gS G) i)) dX8_writeTrain_78 k6 (by omega) (by decide) (htr _ (by omega)).2.2.2.1 ?_
    refine J_iconst (v := (-1)) dX8_writeTrain_79 (by decide) ?_
    refine J_icmp_eq (tgt := 101) dX8_writeTrain_80 (by decide) (fun h80 => ?_) (fun h80 => ?_)
    · skip
      have e80 : sGo (gS G) i = none := (oI_m1 (sGo_b hwf (by omega))).mp h80
      refine J_aload_n dX8_writeTrain_101 rfl rfl ?_
      refine J_getfield dX8_writeTrain_102 fX8_12 hX0 rfl ?_
      refine J_getfield dX8_writeTrain_105 fX8_202 hO rfl ?_
      refine J_iload_n dX8_writeTrain_108 rfl rfl ?_
      refine K_callS dX8_writeTrain_109 YX8_has kX8_107 (c_has w37 bo (by omega)) rfl rfl (Nat.le_of_ble_eq_true rfl) (by decide) ?_
      refine J_if_eq (tgt := 124) dX8_writeTrain_112 (by decide) (fun h112 => ?_) (fun h112 => ?_)
      · skip
        have e112 : sOf (gS G) i = false := b2i_eq.mp h112
        refine J_aload_n dX8_writeTrain_124 rfl rfl ?_
        refine J_getfield dX8_writeTrain_125 fX8_53 hX0 rfl ?_
        obtain ⟨fo, hoC, -⟩ := id hOo37
        refine J_getfield dX8_writeTrain_128 fX8_264 hoC rfl ?_
        have hl : ([] ++ markL 84 i) ++ markL 64 (sPl (gS G) i) = trL (gS G) i := by simp [trL, h49, e80, e112]
        have hOl := hl ▸ hOo37
        have hfr := ((((Fr.rf w (x + 124) (x + 126)).tr hFo9 (by omega) (by omega)).tr hFo19 (by omega) (by omega)).tr hFo37 (by omega) (by omega))
        exact J_ireturn dX8_writeTrain_131 rfl rfl (GXo_ok (v := nI (trL (gS G) i).length) (G' := gOut G (trL (gS G) i)) (by unfold gTrn; rw [e2]) (by rw [hl]) (hfr.wd (by omega) (by omega)) (hX.ou hfr hOl (getD_ch (trL_ch hwf hi))))
      · skip
        have e112 : sOf (gS G) i = true := b2i_ne.mp h112
        refine J_aload_n dX8_writeTrain_115 rfl rfl ?_
        refine J_getfield dX8_writeTrain_116 fX8_53 hX0 rfl ?_
        refine J_bipush (v := nI 33) dX8_writeTrain_119 (by decide) ?_
        refine K_callVp dX8_writeTrain_121 YX5_put kX8_260 (RepO.rc hOo37) (c_X5_put hOo37 (by omega) (by have a1 := mk_le 84 i; have a2 := mk_le 64 (sPl (gS G) i); have a3 := mk_le 43 (sRe (gS G) i);  have b1 : (markL 84 i).length = 2 := mk_2 84 (by omega); have b3 : sRe (gS G) i < 10 → (markL 43 (sRe (gS G) i)).length = 2 := fun z => mk_2 43 z; simp only [List.length_append, List.length_cons, List.length_nil]; omega)) rfl rfl (Nat.le_of_ble_eq_true rfl) (by decide) (fun v121 w121 q121 => ?_)
        obtain ⟨rfl, hFo121, hOo121⟩ := q121
        have hO := (hFo121.1 _ (by omega)).trans hO
        have hX0 := (hFo121.1 _ (by omega)).trans hX0
        have k1 := (hFo121.1 _ (by omega)).trans k1
        have k2 := (hFo121.1 _ (by omega)).trans k2
        have k3 := (hFo121.1 _ (by omega)).trans k3
        have k4 := (hFo121.1 _ (by omega)).trans k4
        have k5 := (hFo121.1 _ (by omega)).trans k5
        have k6 := (hFo121.1 _ (by omega)).trans k6
        have k7 := (hFo121.1 _ (by omega)).trans k7
        have k8 := (hFo121.1 _ (by omega)).trans k8
        refine J_aload_n dX8_writeTrain_124 rfl rfl ?_
        refine J_getfield dX8_writeTrain_125 fX8_53 hX0 rfl ?_
        obtain ⟨fo, hoC, -⟩ := id hOo121
        refine J_getfield dX8_writeTrain_128 fX8_264 hoC rfl ?_
        have hl : (([] ++ markL 84 i) ++ markL 64 (sPl (gS G) i)) ++ [33] = trL (gS G) i := by simp [trL, h49, e80, e112]
        have hOl := hl ▸ hOo121
        have hfr := (((((Fr.rf w (x + 124) (x + 126)).tr hFo9 (by omega) (by omega)).tr hFo19 (by omega) (by omega)).tr hFo37 (by omega) (by omega)).tr hFo121 (by omega) (by omega))
        exact J_ireturn dX8_writeTrain_131 rfl rfl (GXo_ok (v := nI (trL (gS G) i).length) (G' := gOut G (trL (gS G) i)) (by unfold gTrn; rw [e2]) (by rw [hl]) (hfr.wd (by omega) (by omega)) (hX.ou hfr hOl (getD_ch (trL_ch hwf hi))))
    · skip
      obtain ⟨kg, e80⟩ : ∃ k_, sGo (gS G) i = some k_ := by
        cases q : sGo (gS G) i with
        | none => exact absurd ((oI_m1 (sGo_b hwf (by omega))).mpr q) h80
        | some k_ => exact ⟨k_, rfl⟩
      have hgb := hwf.2.2.2.2.2.1 i hi kg e80
      refine J_aload_n dX8_writeTrain_83 rfl rfl ?_
      refine J_getfield dX8_writeTrain_84 fX8_53 hX0 rfl ?_
      refine J_bipush (v := nI 62) dX8_writeTrain_87 (by decide) ?_
      refine J_aload_n dX8_writeTrain_89 rfl rfl ?_
      refine J_getfield dX8_writeTrain_90 fX8_12 hX0 rfl ?_
      refine J_getfield dX8_writeTrain_93 fX8_199 hO rfl ?_
      refine J_iload_n dX8_writeTrain_96 rfl rfl ?_
      refine K_iald (v := nI kg) dX8_writeTrain_97 k6 (by omega) (by decide) ((htr i hi).2.2.2.1.trans (by rw [e80]; rfl)) ?_
      refine K_callVp dX8_writeTrain_98 YX5_putMarked kX8_256 (RepO.rc hOo37) (c_X5_putMarked hOo37 (by omega) (show kg < 100 by omega) (by have a1 := mk_le 84 i; have a2 := mk_le 64 (sPl (gS G) i); have a3 := mk_le 43 (sRe (gS G) i); have a4 := mk_le 62 kg; have b1 : (markL 84 i).length = 2 := mk_2 84 (by omega); have b3 : sRe (gS G) i < 10 → (markL 43 (sRe (gS G) i)).length = 2 := fun z => mk_2 43 z; simp only [List.length_append, List.length_cons, List.length_nil]; omega)) rfl rfl (Nat.le_of_ble_eq_true rfl) (by decide) (fun v98 w98 q98 => ?_)
      obtain ⟨rfl, hFo98, hOo98⟩ := q98
      have hO := (hFo98.1 _ (by omega)).trans hO
      have hX0 := (hFo98.1 _ (by omega)).trans hX0
      have k1 := (hFo98.1 _ (by omega)).trans k1
      have k2 := (hFo98.1 _ (by omega)).trans k2
      have k3 := (hFo98.1 _ (by omega)).trans k3
      have k4 := (hFo98.1 _ (by omega)).trans k4
      have k5 := (hFo98.1 _ (by omega)).trans k5
      have k6 := (hFo98.1 _ (by omega)).trans k6
      have k7 := (hFo98.1 _ (by omega)).trans k7
      have k8 := (hFo98.1 _ (by omega)).trans k8
      refine J_aload_n dX8_writeTrain_101 rfl rfl ?_
      refine J_getfield dX8_writeTrain_102 fX8_12 hX0 rfl ?_
      refine J_getfield dX8_writeTrain_105 fX8_202 hO rfl ?_
      refine J_iload_n dX8_writeTrain_108 rfl rfl ?_
      refine K_callS dX8_writeTrain_109 YX8_has kX8_107 (c_has w98 bo (by omega)) rfl rfl (Nat.le_of_ble_eq_true rfl) (by decide) ?_
      refine J_if_eq (tgt := 124) dX8_writeTrain_112 (by decide) (fun h112 => ?_) (fun h112 => ?_)
      · skip
        have e112 : sOf (gS G) i = false := b2i_eq.mp h112
        refine J_aload_n dX8_writeTrain_124 rfl rfl ?_
        refine J_getfield dX8_writeTrain_125 fX8_53 hX0 rfl ?_
        obtain ⟨fo, hoC, -⟩ := id hOo98
        refine J_getfield dX8_writeTrain_128 fX8_264 hoC rfl ?_
        have hl : (([] ++ markL 84 i) ++ markL 64 (sPl (gS G) i)) ++ markL 62 kg = trL (gS G) i := by simp [trL, h49, e80, e112]
        have hOl := hl ▸ hOo98
        have hfr := (((((Fr.rf w (x + 124) (x + 126)).tr hFo9 (by omega) (by omega)).tr hFo19 (by omega) (by omega)).tr hFo37 (by omega) (by omega)).tr hFo98 (by omega) (by omega))
        exact J_ireturn dX8_writeTrain_131 rfl rfl (GXo_ok (v := nI (trL (gS G) i).length) (G' := gOut G (trL (gS G) i)) (by unfold gTrn; rw [e2]) (by rw [hl]) (hfr.wd (by omega) (by omega)) (hX.ou hfr hOl (getD_ch (trL_ch hwf hi))))
      · skip
        have e112 : sOf (gS G) i = true := b2i_ne.mp h112
        refine J_aload_n dX8_writeTrain_115 rfl rfl ?_
        refine J_getfield dX8_writeTrain_116 fX8_53 hX0 rfl ?_
        refine J_bipush (v := nI 33) dX8_writeTrain_119 (by decide) ?_
        refine K_callVp dX8_writeTrain_121 YX5_put kX8_260 (RepO.rc hOo98) (c_X5_put hOo98 (by omega) (by have a1 := mk_le 84 i; have a2 := mk_le 64 (sPl (gS G) i); have a3 := mk_le 43 (sRe (gS G) i); have a4 := mk_le 62 kg; have b1 : (markL 84 i).length = 2 := mk_2 84 (by omega); have b3 : sRe (gS G) i < 10 → (markL 43 (sRe (gS G) i)).length = 2 := fun z => mk_2 43 z; simp only [List.length_append, List.length_cons, List.length_nil]; omega)) rfl rfl (Nat.le_of_ble_eq_true rfl) (by decide) (fun v121 w121 q121 => ?_)
        obtain ⟨rfl, hFo121, hOo121⟩ := q121
        have hO := (hFo121.1 _ (by omega)).trans hO
        have hX0 := (hFo121.1 _ (by omega)).trans hX0
        have k1 := (hFo121.1 _ (by omega)).trans k1
        have k2 := (hFo121.1 _ (by omega)).trans k2
        have k3 := (hFo121.1 _ (by omega)).trans k3
        have k4 := (hFo121.1 _ (by omega)).trans k4
        have k5 := (hFo121.1 _ (by omega)).trans k5
        have k6 := (hFo121.1 _ (by omega)).trans k6
        have k7 := (hFo121.1 _ (by omega)).trans k7
        have k8 := (hFo121.1 _ (by omega)).trans k8
        refine J_aload_n dX8_writeTrain_124 rfl rfl ?_
        refine J_getfield dX8_writeTrain_125 fX8_53 hX0 rfl ?_
        obtain ⟨fo, hoC, -⟩ := id hOo121
        refine J_getfield dX8_writeTrain_128 fX8_264 hoC rfl ?_
        have hl : ((([] ++ markL 84 i) ++ markL 64 (sPl (gS G) i)) ++ markL 62 kg) ++ [33] = trL (gS G) i := by simp [trL, h49, e80, e112]
        have hOl := hl ▸ hOo121
        have hfr := ((((((Fr.rf w (x + 124) (x + 126)).tr hFo9 (by omega) (by omega)).tr hFo19 (by omega) (by omega)).tr hFo37 (by omega) (by omega)).tr hFo98 (by omega) (by omega)).tr hFo121 (by omega) (by omega))
        exact J_ireturn dX8_writeTrain_131 rfl rfl (GXo_ok (v := nI (trL (gS G) i).length) (G' := gOut G (trL (gS G) i)) (by unfold gTrn; rw [e2]) (by rw [hl]) (hfr.wd (by omega) (by omega)) (hX.ou hfr hOl (getD_ch (trL_ch hwf hi))))
  · skip
    have h49 := mt (nI_leI (b := 0) (by omega) (by omega)).mpr h49
    have h49 : 0 < sRe (gS G) i := by omega
    refine J_aload_n dX8_writeTrain_52 rfl rfl ?_
    refine J_getfield dX8_writeTrain_53 fX8_53 hX0 rfl ?_
    refine J_bipush (v := nI 43) dX8_writeTrain_56 (by decide) ?_
    refine J_aload_n dX8_writeTrain_58 rfl rfl ?_
    refine J_getfield dX8_writeTrain_59 fX8_12 hX0 rfl ?_
    refine J_getfield dX8_writeTrain_62 fX8_196 hO rfl ?_
    refine J_iload_n dX8_writeTrain_65 rfl rfl ?_
    have q66a := hwf.2.2.2.2.1 i (by omega)
    refine K_iald (v := nI (sRe (gS G) i)) dX8_writeTrain_66 k5 (by omega) (by decide) (htr _ (by omega)).2.2.1 ?_
    refine K_callVp dX8_writeTrain_67 YX5_putMarked kX8_256 (RepO.rc hOo37) (c_X5_putMarked hOo37 (by omega) (show sRe (gS G) i < 100 by omega) (by have a1 := mk_le 84 i; have a2 := mk_le 64 (sPl (gS G) i); have a3 := mk_le 43 (sRe (gS G) i);  have b1 : (markL 84 i).length = 2 := mk_2 84 (by omega); have b3 : sRe (gS G) i < 10 → (markL 43 (sRe (gS G) i)).length = 2 := fun z => mk_2 43 z; simp only [List.length_append, List.length_cons, List.length_nil]; omega)) rfl rfl (Nat.le_of_ble_eq_true rfl) (by decide) (fun v67 w67 q67 => ?_)
    obtain ⟨rfl, hFo67, hOo67⟩ := q67
    have hO := (hFo67.1 _ (by omega)).trans hO
    have hX0 := (hFo67.1 _ (by omega)).trans hX0
    have k1 := (hFo67.1 _ (by omega)).trans k1
    have k2 := (hFo67.1 _ (by omega)).trans k2
    have k3 := (hFo67.1 _ (by omega)).trans k3
    have k4 := (hFo67.1 _ (by omega)).trans k4
    have k5 := (hFo67.1 _ (by omega)).trans k5
    have k6 := (hFo67.1 _ (by omega)).trans k6
    have k7 := (hFo67.1 _ (by omega)).trans k7
    have k8 := (hFo67.1 _ (by omega)).trans k8
    refine J_aload_n dX8_writeTrain_70 rfl rfl ?_
    refine J_getfield dX8_writeTrain_71 fX8_12 hX0 rfl ?_
    refine J_getfield dX8_writeTrain_74 fX8_199 hO rfl ?_
    refine J_iload_n dX8_writeTrain_77 rfl rfl ?_
    refine K_iald (v := oI (sGo (gS G) i)) dX8_writeTrain_78 k6 (by omega) (by decide) (htr _ (by omega)).2.2.2.1 ?_
    refine J_iconst (v := (-1)) dX8_writeTrain_79 (by decide) ?_
    refine J_icmp_eq (tgt := 101) dX8_writeTrain_80 (by decide) (fun h80 => ?_) (fun h80 => ?_)
    · skip
      have e80 : sGo (gS G) i = none := (oI_m1 (sGo_b hwf (by omega))).mp h80
      refine J_aload_n dX8_writeTrain_101 rfl rfl ?_
      refine J_getfield dX8_writeTrain_102 fX8_12 hX0 rfl ?_
      refine J_getfield dX8_writeTrain_105 fX8_202 hO rfl ?_
      refine J_iload_n dX8_writeTrain_108 rfl rfl ?_
      refine K_callS dX8_writeTrain_109 YX8_has kX8_107 (c_has w67 bo (by omega)) rfl rfl (Nat.le_of_ble_eq_true rfl) (by decide) ?_
      refine J_if_eq (tgt := 124) dX8_writeTrain_112 (by decide) (fun h112 => ?_) (fun h112 => ?_)
      · skip
        have e112 : sOf (gS G) i = false := b2i_eq.mp h112
        refine J_aload_n dX8_writeTrain_124 rfl rfl ?_
        refine J_getfield dX8_writeTrain_125 fX8_53 hX0 rfl ?_
        obtain ⟨fo, hoC, -⟩ := id hOo67
        refine J_getfield dX8_writeTrain_128 fX8_264 hoC rfl ?_
        have hl : (([] ++ markL 84 i) ++ markL 64 (sPl (gS G) i)) ++ markL 43 (sRe (gS G) i) = trL (gS G) i := by simp [trL, h49, e80, e112]
        have hOl := hl ▸ hOo67
        have hfr := (((((Fr.rf w (x + 124) (x + 126)).tr hFo9 (by omega) (by omega)).tr hFo19 (by omega) (by omega)).tr hFo37 (by omega) (by omega)).tr hFo67 (by omega) (by omega))
        exact J_ireturn dX8_writeTrain_131 rfl rfl (GXo_ok (v := nI (trL (gS G) i).length) (G' := gOut G (trL (gS G) i)) (by unfold gTrn; rw [e2]) (by rw [hl]) (hfr.wd (by omega) (by omega)) (hX.ou hfr hOl (getD_ch (trL_ch hwf hi))))
      · skip
        have e112 : sOf (gS G) i = true := b2i_ne.mp h112
        refine J_aload_n dX8_writeTrain_115 rfl rfl ?_
        refine J_getfield dX8_writeTrain_116 fX8_53 hX0 rfl ?_
        refine J_bipush (v := nI 33) dX8_writeTrain_119 (by decide) ?_
        refine K_callVp dX8_writeTrain_121 YX5_put kX8_260 (RepO.rc hOo67) (c_X5_put hOo67 (by omega) (by have a1 := mk_le 84 i; have a2 := mk_le 64 (sPl (gS G) i); have a3 := mk_le 43 (sRe (gS G) i);  have b1 : (markL 84 i).length = 2 := mk_2 84 (by omega); have b3 : sRe (gS G) i < 10 → (markL 43 (sRe (gS G) i)).length = 2 := fun z => mk_2 43 z; simp only [List.length_append, List.length_cons, List.length_nil]; omega)) rfl rfl (Nat.le_of_ble_eq_true rfl) (by decide) (fun v121 w121 q121 => ?_)
        obtain ⟨rfl, hFo121, hOo121⟩ := q121
        have hO := (hFo121.1 _ (by omega)).trans hO
        have hX0 := (hFo121.1 _ (by omega)).trans hX0
        have k1 := (hFo121.1 _ (by omega)).trans k1
        have k2 := (hFo121.1 _ (by omega)).trans k2
        have k3 := (hFo121.1 _ (by omega)).trans k3
        have k4 := (hFo121.1 _ (by omega)).trans k4
        have k5 := (hFo121.1 _ (by omega)).trans k5
        have k6 := (hFo121.1 _ (by omega)).trans k6
        have k7 := (hFo121.1 _ (by omega)).trans k7
        have k8 := (hFo121.1 _ (by omega)).trans k8
        refine J_aload_n dX8_writeTrain_124 rfl rfl ?_
        refine J_getfield dX8_writeTrain_125 fX8_53 hX0 rfl ?_
        obtain ⟨fo, hoC, -⟩ := id hOo121
        refine J_getfield dX8_writeTrain_128 fX8_264 hoC rfl ?_
        have hl : ((([] ++ markL 84 i) ++ markL 64 (sPl (gS G) i)) ++ markL 43 (sRe (gS G) i)) ++ [33] = trL (gS G) i := by simp [trL, h49, e80, e112]
        have hOl := hl ▸ hOo121
        have hfr := ((((((Fr.rf w (x + 124) (x + 126)).tr hFo9 (by omega) (by omega)).tr hFo19 (by omega) (by omega)).tr hFo37 (by omega) (by omega)).tr hFo67 (by omega) (by omega)).tr hFo121 (by omega) (by omega))
        exact J_ireturn dX8_writeTrain_131 rfl rfl (GXo_ok (v := nI (trL (gS G) i).length) (G' := gOut G (trL (gS G) i)) (by unfold gTrn; rw [e2]) (by rw [hl]) (hfr.wd (by omega) (by omega)) (hX.ou hfr hOl (getD_ch (trL_ch hwf hi))))
    · skip
      obtain ⟨kg, e80⟩ : ∃ k_, sGo (gS G) i = some k_ := by
        cases q : sGo (gS G) i with
        | none => exact absurd ((oI_m1 (sGo_b hwf (by omega))).mpr q) h80
        | some k_ => exact ⟨k_, rfl⟩
      have hgb := hwf.2.2.2.2.2.1 i hi kg e80
      refine J_aload_n dX8_writeTrain_83 rfl rfl ?_
      refine J_getfield dX8_writeTrain_84 fX8_53 hX0 rfl ?_
      refine J_bipush (v := nI 62) dX8_writeTrain_87 (by decide) ?_
      refine J_aload_n dX8_writeTrain_89 rfl rfl ?_
      refine J_getfield dX8_writeTrain_90 fX8_12 hX0 rfl ?_
      refine J_getfield dX8_writeTrain_93 fX8_199 hO rfl ?_
      refine J_iload_n dX8_writeTrain_96 rfl rfl ?_
      refine K_iald (v := nI kg) dX8_writeTrain_97 k6 (by omega) (by decide) ((htr i hi).2.2.2.1.trans (by rw [e80]; rfl)) ?_
      refine K_callVp dX8_writeTrain_98 YX5_putMarked kX8_256 (RepO.rc hOo67) (c_X5_putMarked hOo67 (by omega) (show kg < 100 by omega) (by have a1 := mk_le 84 i; have a2 := mk_le 64 (sPl (gS G) i); have a3 := mk_le 43 (sRe (gS G) i); have a4 := mk_le 62 kg; have b1 : (markL 84 i).length = 2 := mk_2 84 (by omega); have b3 : sRe (gS G) i < 10 → (markL 43 (sRe (gS G) i)).length = 2 := fun z => mk_2 43 z; simp only [List.length_append, List.length_cons, List.length_nil]; omega)) rfl rfl (Nat.le_of_ble_eq_true rfl) (by decide) (fun v98 w98 q98 => ?_)
      obtain ⟨rfl, hFo98, hOo98⟩ := q98
      have hO := (hFo98.1 _ (by omega)).trans hO
      have hX0 := (hFo98.1 _ (by omega)).trans hX0
      have k1 := (hFo98.1 _ (by omega)).trans k1
      have k2 := (hFo98.1 _ (by omega)).trans k2
      have k3 := (hFo98.1 _ (by omega)).trans k3
      have k4 := (hFo98.1 _ (by omega)).trans k4
      have k5 := (hFo98.1 _ (by omega)).trans k5
      have k6 := (hFo98.1 _ (by omega)).trans k6
      have k7 := (hFo98.1 _ (by omega)).trans k7
      have k8 := (hFo98.1 _ (by omega)).trans k8
      refine J_aload_n dX8_writeTrain_101 rfl rfl ?_
      refine J_getfield dX8_writeTrain_102 fX8_12 hX0 rfl ?_
      refine J_getfield dX8_writeTrain_105 fX8_202 hO rfl ?_
      refine J_iload_n dX8_writeTrain_108 rfl rfl ?_
      refine K_callS dX8_writeTrain_109 YX8_has kX8_107 (c_has w98 bo (by omega)) rfl rfl (Nat.le_of_ble_eq_true rfl) (by decide) ?_
      refine J_if_eq (tgt := 124) dX8_writeTrain_112 (by decide) (fun h112 => ?_) (fun h112 => ?_)
      · skip
        have e112 : sOf (gS G) i = false := b2i_eq.mp h112
        refine J_aload_n dX8_writeTrain_124 rfl rfl ?_
        refine J_getfield dX8_writeTrain_125 fX8_53 hX0 rfl ?_
        obtain ⟨fo, hoC, -⟩ := id hOo98
        refine J_getfield dX8_writeTrain_128 fX8_264 hoC rfl ?_
        have hl : ((([] ++ markL 84 i) ++ markL 64 (sPl (gS G) i)) ++ markL 43 (sRe (gS G) i)) ++ markL 62 kg = trL (gS G) i := by simp [trL, h49, e80, e112]
        have hOl := hl ▸ hOo98
        have hfr := ((((((Fr.rf w (x + 124) (x + 126)).tr hFo9 (by omega) (by omega)).tr hFo19 (by omega) (by omega)).tr hFo37 (by omega) (by omega)).tr hFo67 (by omega) (by omega)).tr hFo98 (by omega) (by omega))
        exact J_ireturn dX8_writeTrain_131 rfl rfl (GXo_ok (v := nI (trL (gS G) i).length) (G' := gOut G (trL (gS G) i)) (by unfold gTrn; rw [e2]) (by rw [hl]) (hfr.wd (by omega) (by omega)) (hX.ou hfr hOl (getD_ch (trL_ch hwf hi))))
      · skip
        have e112 : sOf (gS G) i = true := b2i_ne.mp h112
        refine J_aload_n dX8_writeTrain_115 rfl rfl ?_
        refine J_getfield dX8_writeTrain_116 fX8_53 hX0 rfl ?_
        refine J_bipush (v := nI 33) dX8_writeTrain_119 (by decide) ?_
        refine K_callVp dX8_writeTrain_121 YX5_put kX8_260 (RepO.rc hOo98) (c_X5_put hOo98 (by omega) (by have a1 := mk_le 84 i; have a2 := mk_le 64 (sPl (gS G) i); have a3 := mk_le 43 (sRe (gS G) i); have a4 := mk_le 62 kg; have b1 : (markL 84 i).length = 2 := mk_2 84 (by omega); have b3 : sRe (gS G) i < 10 → (markL 43 (sRe (gS G) i)).length = 2 := fun z => mk_2 43 z; simp only [List.length_append, List.length_cons, List.length_nil]; omega)) rfl rfl (Nat.le_of_ble_eq_true rfl) (by decide) (fun v121 w121 q121 => ?_)
        obtain ⟨rfl, hFo121, hOo121⟩ := q121
        have hO := (hFo121.1 _ (by omega)).trans hO
        have hX0 := (hFo121.1 _ (by omega)).trans hX0
        have k1 := (hFo121.1 _ (by omega)).trans k1
        have k2 := (hFo121.1 _ (by omega)).trans k2
        have k3 := (hFo121.1 _ (by omega)).trans k3
        have k4 := (hFo121.1 _ (by omega)).trans k4
        have k5 := (hFo121.1 _ (by omega)).trans k5
        have k6 := (hFo121.1 _ (by omega)).trans k6
        have k7 := (hFo121.1 _ (by omega)).trans k7
        have k8 := (hFo121.1 _ (by omega)).trans k8
        refine J_aload_n dX8_writeTrain_124 rfl rfl ?_
        refine J_getfield dX8_writeTrain_125 fX8_53 hX0 rfl ?_
        obtain ⟨fo, hoC, -⟩ := id hOo121
        refine J_getfield dX8_writeTrain_128 fX8_264 hoC rfl ?_
        have hl : (((([] ++ markL 84 i) ++ markL 64 (sPl (gS G) i)) ++ markL 43 (sRe (gS G) i)) ++ markL 62 kg) ++ [33] = trL (gS G) i := by simp [trL, h49, e80, e112]
        have hOl := hl ▸ hOo121
        have hfr := (((((((Fr.rf w (x + 124) (x + 126)).tr hFo9 (by omega) (by omega)).tr hFo19 (by omega) (by omega)).tr hFo37 (by omega) (by omega)).tr hFo67 (by omega) (by omega)).tr hFo98 (by omega) (by omega)).tr hFo121 (by omega) (by omega))
        exact J_ireturn dX8_writeTrain_131 rfl rfl (GXo_ok (v := nI (trL (gS G) i).length) (G' := gOut G (trL (gS G) i)) (by unfold gTrn; rw [e2]) (by rw [hl]) (hfr.wd (by omega) (by omega)) (hX.ou hfr hOl (getD_ch (trL_ch hwf hi))))

theorem c_X8_writeSignals {w : Wd} {x : Nat} {G : Gme} (hX : RepX w x G) : MC 4 mX8_writeSignals 1 6 [.ref x] w (GXo w x (gSig G)) := by
  obtain ⟨hX0, hL, hV, ⟨S9, hW9⟩, ⟨K, hH⟩, hRt, hTr, ⟨p9, e9, m9, y1, y2, hD⟩, hOu, hB⟩ := id hX
  obtain ⟨x4, x5, x6, f1, f2, f3, f4, f5, f6, f7, f8, hO, ⟨k1, k2, k3, k4, k5, k6, k7, k8⟩, ⟨bc, ba, bo⟩, hlen, hlk, htr, hwf⟩ := id hL
  have hnb := hwf.nb
  have hnt := hwf.nt
  refine MC_j pnX8 rfl rfl rfl (Or.inr (fun E w h => h.2.2.elim (fun z => by cases z.2) (fun z => z.1 rfl))) ?_
  show J 4 mX8_writeSignals 0 [some (.ref x), none] [] w 1 6 _
  have loop : ∀ n k w1, sNb (gS G) < n + k → k ≤ sNb (gS G) → RepO w1 (x + 124) ((List.range k).map (sgn (gS G))) → Fr w w1 (x + 124) (x + 126) → J 4 mX8_writeSignals 9 [some (.ref x), some (.int (nI k))] [] w1 1 6 (GXo w x (gSig G)) := by
    intro n
    induction n with
    | zero => intros; omega
    | succ n ih =>
      intro k w1 q1 q2 hOl hFo
      have hX0 := (hFo.1 _ (by omega)).trans hX0
      have hO := (hFo.1 _ (by omega)).trans hO
      have hL1 := hL.kept (fun j hj => hFo.1 _ (by omega))
      refine J_iload_n dX8_writeSignals_9 rfl rfl ?_
      refine J_aload_n dX8_writeSignals_10 rfl rfl ?_
      refine J_getfield dX8_writeSignals_11 fX8_12 hX0 rfl ?_
      refine J_getfield dX8_writeSignals_14 fX8_93 hO rfl ?_
      refine J_icmp_ge (tgt := 41) dX8_writeSignals_17 (by decide) (fun h17 => ?_) (fun h17 => ?_)
      · skip
        have h17 := (nI_leI (by omega) (by omega)).mp h17
        have ek : k = sNb (gS G) := by omega
        subst ek
        refine J_aload_n dX8_writeSignals_41 rfl rfl ?_
        refine J_getfield dX8_writeSignals_42 fX8_53 hX0 rfl ?_
        obtain ⟨fo, hoC, -⟩ := id hOl
        refine J_getfield dX8_writeSignals_45 fX8_264 hoC rfl ?_
        exact J_ireturn dX8_writeSignals_48 rfl rfl (GXo_ok (v := nI (siL (gS G)).length) (G' := gOut G (siL (gS G))) rfl rfl (hFo.wd (by omega) (by omega)) (hX.ou hFo hOl (getD_ch (siL_ch _))))
      · skip
        have h17 := mt (nI_leI (by omega) (by omega)).mpr h17
        refine J_aload_n dX8_writeSignals_20 rfl rfl ?_
        refine J_getfield dX8_writeSignals_21 fX8_53 hX0 rfl ?_
        refine J_aload_n dX8_writeSignals_24 rfl rfl ?_
        refine J_getfield dX8_writeSignals_25 fX8_12 hX0 rfl ?_
        refine J_iload_n dX8_writeSignals_28 rfl rfl ?_
        refine K_callV dX8_writeSignals_29 YX4_signalOf kX8_134 (RepC.rc hL1) (c_X4_signalOf hL1 (by omega)) rfl rfl (Nat.le_of_ble_eq_true rfl) (by decide) ?_
        refine K_callVp dX8_writeSignals_32 YX5_put kX8_260 (RepO.rc hOl) (c_X5_put hOl (sgn_lt _ _) (by rw [List.length_map, List.length_range]; omega)) rfl rfl (Nat.le_of_ble_eq_true rfl) (by decide) (fun v32 w32 q32 => ?_)
        obtain ⟨rfl, hFo32, hOo32⟩ := q32
        refine J_iinc (v := nI (k + 1)) dX8_writeSignals_35 rfl (nI_succ _).symm (by decide) rfl ?_
        refine J_goto (tgt := 9) dX8_writeSignals_38 (by decide) ?_
        rw [show (List.range k).map (sgn (gS G)) ++ [sgn (gS G) k] = (List.range (k + 1)).map (sgn (gS G)) from by rw [List.range_succ, List.map_append]; rfl] at hOo32
        exact ih (k + 1) _ (by omega) (by omega) hOo32 (hFo.tr hFo32 (by omega) (by omega))
  refine J_aload_n dX8_writeSignals_0 rfl rfl ?_
  refine J_getfield dX8_writeSignals_1 fX8_53 hX0 rfl ?_
  refine K_callVp dX8_writeSignals_4 YX5_clear kX8_253 (RepO.rc hOu) (c_X5_clear hOu) rfl rfl (Nat.le_of_ble_eq_true rfl) (by decide) (fun v4 w4 q4 => ?_)
  obtain ⟨rfl, hFo4, hOo4⟩ := q4
  refine J_iconst (v := nI 0) dX8_writeSignals_7 (by decide) ?_
  refine J_istore_n dX8_writeSignals_8 rfl (by decide) rfl ?_
  exact loop (sNb (gS G) + 1) 0 _ (by omega) (by omega) hOo4 hFo4

theorem c_X8_outputCharacter {w : Wd} {x : Nat} {G : Gme} (hX : RepX w x G) (y : Int32) : MC 6 mX8_outputCharacter 1 6 [.ref x, .int y] w (GXo w x (gQ G (gChr G y))) := by
  obtain ⟨hX0, hL, hV, ⟨S9, hW9⟩, ⟨K, hH⟩, hRt, hTr, ⟨p9, e9, m9, y1, y2, hD⟩, hOu, hB⟩ := id hX
  have hwf := hL.wf
  have hnb := hwf.nb
  have hnt := hwf.nt
  obtain ⟨fo, hoC, hoA, hol, hoV⟩ := id hOu
  refine MC_j pnX8 rfl rfl rfl (Or.inl (by decide)) ?_
  show J 6 mX8_outputCharacter 0 [some (.ref x), some (.int y)] [] w 1 6 _
  refine J_iload_n dX8_outputCharacter_0 rfl rfl ?_
  refine J_if_lt (tgt := 15) dX8_outputCharacter_1 (by decide) (fun h1 => ?_) (fun h1 => ?_)
  · skip
    have e0 : vi (gO G).length y = none := vi_none (by omega) (Or.inl h1)
    exact J_throw thX8_outputCharacter_15 (Nat.le_refl _) (Nat.le_refl _) (GXo_no (c := 0) (v := 0) (G' := G) (gQ_eq (onI_no e0)) (Fr.rf _ _ _) hX)
  · skip
    refine J_iload_n dX8_outputCharacter_4 rfl rfl ?_
    refine J_aload_n dX8_outputCharacter_5 rfl rfl ?_
    refine J_getfield dX8_outputCharacter_6 fX8_53 hX0 rfl ?_
    refine J_getfield dX8_outputCharacter_9 fX8_264 hoC rfl ?_
    refine J_icmp_lt (tgt := 26) dX8_outputCharacter_12 (by decide) (fun h12 => ?_) (fun h12 => ?_)
    · skip
      obtain ⟨i, e2⟩ := isS_yes ((vi_iff (by omega)).mpr ⟨h1, h12⟩)
      obtain ⟨hi, rfl⟩ := vi_some (by omega) e2
      refine J_aload_n dX8_outputCharacter_26 rfl rfl ?_
      refine J_getfield dX8_outputCharacter_27 fX8_53 hX0 rfl ?_
      refine J_getfield dX8_outputCharacter_30 fX8_272 hoC rfl ?_
      refine J_iload_n dX8_outputCharacter_33 rfl rfl ?_
      refine K_cald (v := nI ((gO G).getD i 0)) dX8_outputCharacter_34 hoA (by omega) (by decide) (hoV i hi) ?_
      exact J_ireturn dX8_outputCharacter_35 rfl (narC _ (hB.1 i hi)) (GXo_ok (v := nI ((gO G).getD i 0)) (G' := G) (gQ_eq (onI_ok e2)) rfl (Fr.rf w x (x + 126)) hX)
    · skip
      have e0 : vi (gO G).length y = none := vi_none (by omega) (Or.inr (Int32.not_lt.mp h12))
      exact J_throw thX8_outputCharacter_15 (Nat.le_refl _) (Nat.le_refl _) (GXo_no (c := 0) (v := 0) (G' := G) (gQ_eq (onI_no e0)) (Fr.rf _ _ _) hX)

end JFACE2

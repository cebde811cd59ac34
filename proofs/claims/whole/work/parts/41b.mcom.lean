/-! THE MODEL: commands read -/
section JMCOM
theorem c_X9_one {w : Wd} {m : Nat} {x f6 f7 : Nat → Int32} {t : Nat → Nat} {n p c : Nat} (hW : PWm w m x f6 f7) (hT : TXT f6 t n) (hx : PX x p n c false) (hp : p ≤ n) (hc : c < 59) {s i ch : Nat} (hi : i < 22) (hi9 : 9 ≤ i) (hch : ch = 49 ∨ ch = 50) : MC 12 mX9_one 0 0 [.ref m, .int (nI s), .ref (20 + i), .int (nI (if ch = 50 then 2 else 1))] w (RP (fun v w' => v = none ∧ F7 w w' m ∧ ∃ x' f7', PWm w' m x' f6 f7' ∧ PX x' (mtc t n (WN i ++ [ch]) p []).2.1 n c (!(mtc t n (WN i ++ [ch]) p []).1) ∧ PK x x' ∧ TK f7 f7' c ∧ f7' (3 * c) = nI s ∧ ((mtc t n (WN i ++ [ch]) p []).1 = true → f7' (3 * c + 1) = nI ((mtc t n (WN i ++ [ch]) p []).2.2.getD 0 0)) ∧ p ≤ (mtc t n (WN i ++ [ch]) p []).2.1 ∧ (mtc t n (WN i ++ [ch]) p []).2.1 ≤ n)) := by
  obtain ⟨mO, m6, m7⟩ := id hW
  obtain ⟨h18, h19, h20, h21⟩ := id hx
  have hn60 := hT.1
  refine MC_j pnX9 rfl rfl rfl (Or.inr (fun E w h => RP_no E w h)) ?_
  show J 12 mX9_one 0 [some (.ref m), some (.int (nI s)), some (.ref (20 + i)), some (.int (nI (if ch = 50 then 2 else 1)))] [] w 0 0 _
  refine J_aload_n dX9_one_0 rfl rfl ?_
  refine J_getfield dX9_one_1 fX9_28 mO rfl ?_
  refine J_iconst (v := nI 3) dX9_one_4 (by decide) ?_
  refine J_aload_n dX9_one_5 rfl rfl ?_
  refine J_getfield dX9_one_6 fX9_224 mO rfl ?_
  rw [h20]
  refine K_imul (v := nI (3 * c)) dX9_one_9 (nI_mul _ _) ?_
  refine J_iload_n dX9_one_10 rfl rfl ?_
  refine K_iast dX9_one_11 m7 (by omega) (by decide) (fun w1 u1 => ?_)
  have m6 := (u1.2.1 _ (by omega)).trans m6
  have m7 := u1.1
  have mO := (u1.2.1 _ (by omega)).trans mO
  refine J_aload_n dX9_one_12 rfl rfl ?_
  refine J_aload_n dX9_one_13 rfl rfl ?_
  refine K_callVp dX9_one_14 YX9_says kX9_227 (rc_of mO rfl) (c_X9_says (e := false) ⟨mO, m6, m7⟩ hT hx hp hi hi9) rfl rfl (Nat.le_of_ble_eq_true rfl) (by decide) (fun v14 w14 q14 => ?_)
  obtain ⟨rfl, hF14, x14, hW14, hx14, hK14⟩ := q14
  have mO := hW14.1
  have hsl := sayP_le (t := t) (n := n) (WN i) p hp
  refine J_aload_n dX9_one_17 rfl rfl ?_
  refine J_iconst (v := nI 1) dX9_one_18 (by decide) ?_
  refine J_iload_n dX9_one_19 rfl rfl ?_
  refine K_callVp dX9_one_20 YX9_number kX9_231 (rc_of mO rfl) (c_X9_number (k := 1) (ch := ch) hW14 hT hx14 hsl.2 (by decide) hc hch) rfl rfl (Nat.le_of_ble_eq_true rfl) (by decide) (fun v20 w20 q20 => ?_)
  obtain ⟨rfl, hF20, x20, hW20, hx20, hK20⟩ := q20
  obtain ⟨r1, r2, r3⟩ := mtc1_s hch (WN_dg i hi) (t := t) (n := n) p []
  exact J_return dX9_one_23 rfl (RP_i ⟨rfl, (((F7.rf w m).up u1 (by omega) (by omega)).tr hF14).tr hF20, x20, _, hW20, r1 ▸ r2 ▸ hx20, (fun j h1 h2 h3 => (hK20 j h1 h2 h3).trans (hK14 j h1 h2 h3)), (fun j hj => by rw [up_n _ _ (by omega), up_n _ _ (by omega)]), by rw [up_n _ _ (by omega), up_s], (fun z => by rw [up_s, r3 z]; rfl), by rw [← r1]; split <;> (try split) <;> omega, by
        have := mt_le (t := t) (n := n) (WN i ++ [ch]) p [] hp
        exact this⟩)

theorem c_X9_two {w : Wd} {m : Nat} {x f6 f7 : Nat → Int32} {t : Nat → Nat} {n p c : Nat} (hW : PWm w m x f6 f7) (hT : TXT f6 t n) (hx : PX x p n c false) (hp : p ≤ n) (hc : c < 59) {s i ch i2 ch2 : Nat} (hi : i < 22) (hi9 : 9 ≤ i) (hch : ch = 49 ∨ ch = 50) (hi2 : i2 < 22) (hi92 : 9 ≤ i2) (hch2 : ch2 = 49 ∨ ch2 = 50) : MC 13 mX9_two 0 0 [.ref m, .int (nI s), .ref (20 + i), .int (nI (if ch = 50 then 2 else 1)), .ref (20 + i2), .int (nI (if ch2 = 50 then 2 else 1))] w (RP (fun v w' => v = none ∧ F7 w w' m ∧ ∃ x' f7', PWm w' m x' f6 f7' ∧ PX x' (mtc t n ((WN i ++ [ch]) ++ (WN i2 ++ [ch2])) p []).2.1 n c (!(mtc t n ((WN i ++ [ch]) ++ (WN i2 ++ [ch2])) p []).1) ∧ PK x x' ∧ TK f7 f7' c ∧ f7' (3 * c) = nI s ∧ ((mtc t n ((WN i ++ [ch]) ++ (WN i2 ++ [ch2])) p []).1 = true → f7' (3 * c + 1) = nI ((mtc t n ((WN i ++ [ch]) ++ (WN i2 ++ [ch2])) p []).2.2.getD 0 0) ∧ f7' (3 * c + 2) = nI ((mtc t n ((WN i ++ [ch]) ++ (WN i2 ++ [ch2])) p []).2.2.getD 1 0)))) := by
  obtain ⟨mO, m6, m7⟩ := id hW
  obtain ⟨h18, h19, h20, h21⟩ := id hx
  have hn60 := hT.1
  refine MC_j pnX9 rfl rfl rfl (Or.inr (fun E w h => RP_no E w h)) ?_
  show J 13 mX9_two 0 [some (.ref m), some (.int (nI s)), some (.ref (20 + i)), some (.int (nI (if ch = 50 then 2 else 1))), some (.ref (20 + i2)), some (.int (nI (if ch2 = 50 then 2 else 1)))] [] w 0 0 _
  refine J_aload_n dX9_two_0 rfl rfl ?_
  refine J_iload_n dX9_two_1 rfl rfl ?_
  refine J_aload_n dX9_two_2 rfl rfl ?_
  refine J_iload_n dX9_two_3 rfl rfl ?_
  refine K_callVp dX9_two_4 YX9_one kX9_235 (rc_of mO rfl) (c_X9_one (s := s) hW hT hx hp hc hi hi9 hch) rfl rfl (Nat.le_of_ble_eq_true rfl) (by decide) (fun v4 w4 q4 => ?_)
  obtain ⟨rfl, hF4, x4, f74, hW4, hx4, hK4, hTK4, hs4, hn4, hl4, hl5⟩ := q4
  have mO := hW4.1
  refine J_aload_n dX9_two_7 rfl rfl ?_
  refine J_aload dX9_two_8 rfl ?_
  refine K_callVp dX9_two_10 YX9_says kX9_227 (rc_of mO rfl) (c_X9_says hW4 hT hx4 hl5 hi2 hi92) rfl rfl (Nat.le_of_ble_eq_true rfl) (by decide) (fun v10 w10 q10 => ?_)
  obtain ⟨rfl, hF10, x10, hW10, hx10, hK10⟩ := q10
  have mO := hW10.1
  have hq10 : (if (!(mtc t n (WN i ++ [ch]) p []).1) = true then (mtc t n (WN i ++ [ch]) p []).2.1 else (sayP t n (WN i2) (mtc t n (WN i ++ [ch]) p []).2.1).2) ≤ n := by
    split
    · exact hl5
    · exact (sayP_le _ _ hl5).2
  refine J_aload_n dX9_two_13 rfl rfl ?_
  refine J_iconst (v := nI 2) dX9_two_14 (by decide) ?_
  refine J_iload dX9_two_15 rfl ?_
  refine K_callVp dX9_two_17 YX9_number kX9_231 (rc_of mO rfl) (c_X9_number (k := 2) (ch := ch2) hW10 hT hx10 hq10 (by decide) hc hch2) rfl rfl (Nat.le_of_ble_eq_true rfl) (by decide) (fun v17 w17 q17 => ?_)
  obtain ⟨rfl, hF17, x17, hW17, hx17, hK17⟩ := q17
  cases hr : (mtc t n (WN i ++ [ch]) p []).1 with
  | false =>
    have hR : (mtc t n ((WN i ++ [ch]) ++ (WN i2 ++ [ch2])) p []) = (mtc t n (WN i ++ [ch]) p []) := by rw [mtc_app, if_neg (by rw [hr]; decide)]
    rw [hR]
    rw [hr] at hx4 hx10 hx17 hW17
    exact J_return dX9_two_20 rfl (RP_i ⟨rfl, (hF4.tr hF10).tr hF17, x17, _, hW17, (by rw [hr]; exact hx17), (fun j h1 h2 h3 => (hK17 j h1 h2 h3).trans ((hK10 j h1 h2 h3).trans (hK4 j h1 h2 h3))), (fun j hj => by rw [up_n _ _ (by omega)]; exact hTK4 j hj), by rw [up_n _ _ (by omega)]; exact hs4, fun z => by rw [hr] at z; cases z⟩)
  | true =>
    have hR : (mtc t n ((WN i ++ [ch]) ++ (WN i2 ++ [ch2])) p []) = mtc t n (WN i2 ++ [ch2]) (mtc t n (WN i ++ [ch]) p []).2.1 (mtc t n (WN i ++ [ch]) p []).2.2 := by rw [mtc_app, if_pos hr]
    rw [hR]
    rw [hr] at hx4 hx10 hx17 hW17
    obtain ⟨r1, r2, r3⟩ := mtc1_s hch2 (WN_dg i2 hi2) (t := t) (n := n) (mtc t n (WN i ++ [ch]) p []).2.1 (mtc t n (WN i ++ [ch]) p []).2.2
    obtain ⟨-, -, r4⟩ := mtc1_s hch (WN_dg i hi) (t := t) (n := n) p []
    have r4 := r4 hr
    refine J_return dX9_two_20 rfl (RP_i ⟨rfl, (hF4.tr hF10).tr hF17, x17, _, hW17, r1 ▸ r2 ▸ hx17, (fun j h1 h2 h3 => (hK17 j h1 h2 h3).trans ((hK10 j h1 h2 h3).trans (hK4 j h1 h2 h3))), (fun j hj => by rw [up_n _ _ (by omega)]; exact hTK4 j hj), by rw [up_n _ _ (by omega)]; exact hs4, fun z => ⟨?_, ?_⟩⟩)
    · rw [up_n _ _ (by omega), hn4 hr, r3 z, r4]; rfl
    · rw [up_s, r3 z, r4]; rfl

end JMCOM

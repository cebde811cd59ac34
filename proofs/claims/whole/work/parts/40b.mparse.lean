/-! THE MODEL: the reader of commands -/
section JMPARSE
theorem c_X9_says {w : Wd} {m : Nat} {x f6 f7 : Nat → Int32} {t : Nat → Nat} {n p c : Nat} {e : Bool} (hW : PWm w m x f6 f7) (hT : TXT f6 t n) (hx : PX x p n c e) (hp : p ≤ n) {i : Nat} (hi : i < 22) (hi9 : 9 ≤ i) : MC 11 mX9_says 0 0 [.ref m, .ref (20 + i)] w (RP (fun v w' => v = none ∧ F7 w w' m ∧ ∃ x', PWm w' m x' f6 f7 ∧ PX x' (if e = true then p else (sayP t n (WN i) p).2) n c (if e = true then true else !(sayP t n (WN i) p).1) ∧ PK x x')) := by
  obtain ⟨mO, m6, m7⟩ := id hW
  obtain ⟨h18, h19, h20, h21⟩ := id hx
  have hn60 := hT.1
  refine MC_j pnX9 rfl rfl rfl (Or.inr (fun E w h => RP_no E w h)) ?_
  show J 11 mX9_says 0 [some (.ref m), some (.ref (20 + i)), none] [] w 0 0 _
  have hlen := WN_len i hi hi9
  have hlen9 := tx_len i hi
  have loop : ∀ r k q ee xk w1, (WN i).length < r + k → k ≤ (WN i).length → (e = true → q = p ∧ ee = true) → (e = false → (ee = false → sayP t n (WN i) p = sayP t n ((WN i).drop k) q) ∧ (ee = true → sayP t n (WN i) p = (false, q))) → PWm w1 m xk f6 f7 → PX xk q n c ee → PK x xk → q ≤ n → F7 w w1 m → J 11 mX9_says 2 [some (.ref m), some (.ref (20 + i)), some (.int (nI k))] [] w1 0 0 (RP (fun v w' => v = none ∧ F7 w w' m ∧ ∃ x', PWm w' m x' f6 f7 ∧ PX x' (if e = true then p else (sayP t n (WN i) p).2) n c (if e = true then true else !(sayP t n (WN i) p).1) ∧ PK x x')) := by
    intro r
    induction r with
    | zero => intros; omega
    | succ r ih =>
      intro k q ee xk w1 q1 q2 i1 i2 hW hx hK hq hFr
      obtain ⟨mO, m6, m7⟩ := id hW
      obtain ⟨h18, h19, h20, h21⟩ := id hx
      refine J_iload_n dX9_says_2 rfl rfl ?_
      refine J_aload_n dX9_says_3 rfl rfl ?_
      refine K_callV dX9_says_4 YJ0_length_8abf5 kX9_208 (Rc_st hi) (c_length hi) rfl rfl (Nat.le_of_ble_eq_true rfl) (by decide) ?_
      refine J_icmp_ge (tgt := 66) dX9_says_7 (by decide) (fun h7 => ?_) (fun h7 => ?_)
      · skip
        have h7 := (nI_leI (by omega) (by omega)).mp h7
        exact J_return dX9_says_66 rfl (RP_i ⟨rfl, hFr, xk, ⟨mO, m6, m7⟩, by
            cases e with
            | true =>
              obtain ⟨rfl, rfl⟩ := i1 rfl
              exact hx
            | false =>
              rw [if_neg (by decide), if_neg (by decide)]
              cases ee with
              | true => rw [(i2 rfl).2 rfl]; exact hx
              | false => rw [(i2 rfl).1 rfl, List.drop_eq_nil_of_le (by omega)]; exact hx, hK⟩)
      · skip
        have h7 := mt (nI_leI (by omega) (by omega)).mpr h7
        refine J_aload_n dX9_says_10 rfl rfl ?_
        refine J_getfield dX9_says_11 fX9_213 mO rfl ?_
        rw [h21]
        refine J_if_ne (tgt := 66) dX9_says_14 (by decide) (fun h14 => ?_) (fun h14 => ?_)
        · skip
          have e14 : ee = true := b2i_ne.mp h14
          exact J_return dX9_says_66 rfl (RP_i ⟨rfl, hFr, xk, ⟨mO, m6, m7⟩, by
              cases e with
              | true =>
                obtain ⟨rfl, rfl⟩ := i1 rfl
                exact hx
              | false =>
                rw [if_neg (by decide), if_neg (by decide)]
                subst e14
                rw [(i2 rfl).2 rfl]
                exact hx, hK⟩)
        · skip
          have e14 : ee = false := b2i_eq.mp h14
          subst e14
          have hkl : k < (WN i).length := by omega
          have hk9 : k < 9 := by have := tx_len i hi; omega
          have hch := WN_ch i hi hi9 k hk9
          refine J_aload_n dX9_says_17 rfl rfl ?_
          refine J_aload_n dX9_says_18 rfl rfl ?_
          refine J_iconst (v := nI 0) dX9_says_19 (by decide) ?_
          refine K_callV dX9_says_20 YX9_here kX9_217 (rc_of mO rfl) (c_X9_here (x := xk) ⟨mO, m6, m7⟩ hT hx hq (d := 0) (by omega)) rfl rfl (Nat.le_of_ble_eq_true rfl) (by decide) ?_
          refine J_aload_n dX9_says_23 rfl rfl ?_
          refine J_iload_n dX9_says_24 rfl rfl ?_
          refine K_callV dX9_says_25 YJ0_charAt_5068e kX9_220 (Rc_st hi) (c_charAt hi (by omega)) rfl rfl (Nat.le_of_ble_eq_true rfl) (by decide) ?_
          refine J_icmp_eq (tgt := 35) dX9_says_28 (by decide) (fun h28 => ?_) (fun h28 => ?_)
          · skip
            have e28 : q < n ∧ t q = (WN i).getD k 0 := (hvv_eq hT (i := q) (c := (WN i).getD k 0) (by omega)).mp (h28.trans hch.1)
            refine J_iconst (v := nI 0) dX9_says_35 (by decide) ?_
            refine K_putZ dX9_says_36 fX9_213 (Or.inl rfl) mO (Nat.le_of_ble_eq_true rfl) (by decide) (fun w1 u1 => ?_)
            have m6 := (u1.2.1 _ (by omega)).trans m6
            have m7 := (u1.2.1 _ (by omega)).trans m7
            have mO := u1.1
            have mO : w1.1 m = .inr (9, [.int (xk 0), .ref (m + 1), .ref (m + 2), .ref (m + 3), .ref (m + 4), .ref (m + 5), .int (xk 6), .int (xk 7), .ref (m + 6), .ref (m + 7), .ref (m + 8), .ref (m + 9), .ref (m + 10), .int (xk 13), .int (xk 14), .int (xk 15), .int (xk 16), .int (xk 17), .int (xk 18), .int (xk 19), .int (xk 20), .int (nI 0)]) := mO
            refine J_aload_n dX9_says_39 rfl rfl ?_
            refine J_dup dX9_says_40 rfl ?_
            refine J_getfield dX9_says_41 fX9_202 mO rfl ?_
            rw [h18]
            refine J_aload_n dX9_says_44 rfl rfl ?_
            refine J_getfield dX9_says_45 fX9_213 mO rfl ?_
            refine J_if_eq (tgt := 55) dX9_says_48 (by decide) (fun h48 => ?_) (fun h48 => absurd h48 (by decide))
            refine J_iconst (v := nI 1) dX9_says_55 (by decide) ?_
            refine K_iadd (v := nI (q + 1)) dX9_says_56 (nI_add _ _) ?_
            refine K_putI dX9_says_57 fX9_202 (Or.inl rfl) mO (Nat.le_of_ble_eq_true rfl) (fun w2 u2 => ?_)
            have m6 := (u2.2.1 _ (by omega)).trans m6
            have m7 := (u2.2.1 _ (by omega)).trans m7
            have mO := u2.1
            have mO : w2.1 m = .inr (9, [.int (xk 0), .ref (m + 1), .ref (m + 2), .ref (m + 3), .ref (m + 4), .ref (m + 5), .int (xk 6), .int (xk 7), .ref (m + 6), .ref (m + 7), .ref (m + 8), .ref (m + 9), .ref (m + 10), .int (xk 13), .int (xk 14), .int (xk 15), .int (xk 16), .int (xk 17), .int (nI (q + 1)), .int (xk 19), .int (xk 20), .int (nI 0)]) := mO
            refine J_iinc (v := nI (k + 1)) dX9_says_60 rfl (nI_succ _).symm (by decide) rfl ?_
            refine J_goto (tgt := 2) dX9_says_63 (by decide) ?_
            exact ih (k + 1) (q + 1) false (va_up (va_up xk 18 (nI (q + 1))) 21 (nI 0)) _ (by omega) (by omega) (fun z => absurd (i1 z).2 (by decide)) (fun z => ⟨fun _ => by rw [(i2 z).1 rfl, drop_at hkl, sayP_y e28], fun y => by cases y⟩) ⟨mO, m6, m7⟩ ⟨(up_n _ _ (by decide)).trans (up_s _ _ _), (up_n _ _ (by decide)).trans ((up_n _ _ (by decide)).trans h19), (up_n _ _ (by decide)).trans ((up_n _ _ (by decide)).trans h20), up_s _ _ _⟩ (fun j h1 h2 h3 => (up_n _ _ h3).trans ((up_n _ _ h1).trans (hK j h1 h2 h3))) (show q + 1 ≤ n by omega) ((hFr.up u1 (by omega) (by omega)).up u2 (by omega) (by omega))
          · skip
            have e28 := mt (hvv_eq hT (i := q) (c := (WN i).getD k 0) (by omega)).mpr (fun z => h28 (z.trans hch.1.symm))
            refine J_iconst (v := nI 1) dX9_says_31 (by decide) ?_
            refine J_goto (tgt := 36) dX9_says_32 (by decide) ?_
            refine K_putZ dX9_says_36 fX9_213 (Or.inl rfl) mO (Nat.le_of_ble_eq_true rfl) (by decide) (fun w1 u1 => ?_)
            have m6 := (u1.2.1 _ (by omega)).trans m6
            have m7 := (u1.2.1 _ (by omega)).trans m7
            have mO := u1.1
            have mO : w1.1 m = .inr (9, [.int (xk 0), .ref (m + 1), .ref (m + 2), .ref (m + 3), .ref (m + 4), .ref (m + 5), .int (xk 6), .int (xk 7), .ref (m + 6), .ref (m + 7), .ref (m + 8), .ref (m + 9), .ref (m + 10), .int (xk 13), .int (xk 14), .int (xk 15), .int (xk 16), .int (xk 17), .int (xk 18), .int (xk 19), .int (xk 20), .int (nI 1)]) := mO
            refine J_aload_n dX9_says_39 rfl rfl ?_
            refine J_dup dX9_says_40 rfl ?_
            refine J_getfield dX9_says_41 fX9_202 mO rfl ?_
            rw [h18]
            refine J_aload_n dX9_says_44 rfl rfl ?_
            refine J_getfield dX9_says_45 fX9_213 mO rfl ?_
            refine J_if_eq (tgt := 55) dX9_says_48 (by decide) (fun h48 => absurd h48 (by decide)) (fun h48 => ?_)
            refine J_iconst (v := nI 0) dX9_says_51 (by decide) ?_
            refine J_goto (tgt := 56) dX9_says_52 (by decide) ?_
            refine K_iadd (v := nI (q + 0)) dX9_says_56 (nI_add _ _) ?_
            refine K_putI dX9_says_57 fX9_202 (Or.inl rfl) mO (Nat.le_of_ble_eq_true rfl) (fun w2 u2 => ?_)
            have m6 := (u2.2.1 _ (by omega)).trans m6
            have m7 := (u2.2.1 _ (by omega)).trans m7
            have mO := u2.1
            have mO : w2.1 m = .inr (9, [.int (xk 0), .ref (m + 1), .ref (m + 2), .ref (m + 3), .ref (m + 4), .ref (m + 5), .int (xk 6), .int (xk 7), .ref (m + 6), .ref (m + 7), .ref (m + 8), .ref (m + 9), .ref (m + 10), .int (xk 13), .int (xk 14), .int (xk 15), .int (xk 16), .int (xk 17), .int (nI (q + 0)), .int (xk 19), .int (xk 20), .int (nI 1)]) := mO
            refine J_iinc (v := nI (k + 1)) dX9_says_60 rfl (nI_succ _).symm (by decide) rfl ?_
            refine J_goto (tgt := 2) dX9_says_63 (by decide) ?_
            exact ih (k + 1) q true (va_up (va_up xk 18 (nI (q + 0))) 21 (nI 1)) _ (by omega) (by omega) (fun z => absurd (i1 z).2 (by decide)) (fun z => ⟨fun y => (by cases y), fun _ => by rw [(i2 z).1 rfl, drop_at hkl, sayP_n e28]⟩) ⟨mO, m6, m7⟩ ⟨(up_n _ _ (by decide)).trans (up_s _ _ _), (up_n _ _ (by decide)).trans ((up_n _ _ (by decide)).trans h19), (up_n _ _ (by decide)).trans ((up_n _ _ (by decide)).trans h20), up_s _ _ _⟩ (fun j h1 h2 h3 => (up_n _ _ h3).trans ((up_n _ _ h1).trans (hK j h1 h2 h3))) hq ((hFr.up u1 (by omega) (by omega)).up u2 (by omega) (by omega))
  refine J_iconst (v := nI 0) dX9_says_0 (by decide) ?_
  refine J_istore_n dX9_says_1 rfl (by decide) rfl ?_
  exact loop ((WN i).length + 1) 0 p e x w (by omega) (by omega) (fun z => ⟨rfl, z⟩) (fun z => ⟨fun _ => rfl, fun y => by rw [z] at y; cases y⟩) hW hx (fun _ _ _ _ => rfl) hp (F7.rf _ _)

end JMPARSE

/-! THE MODEL: the reader of commands -/
section JMPARSE
theorem dgs_of {t : Nat → Nat} {n p g ch : Nat} (hch : ch = 49 ∨ ch = 50) (hg : 1 ≤ g) (hm : g ≤ (if ch = 50 then 2 else 1)) (hd : ∀ j, j < g → isD t n (p + j) = true) (he : g = (if ch = 50 then 2 else 1) ∨ isD t n (p + g) = false) : isD t n p = true ∧ dgs t n ch p = g := by
  refine ⟨by have := hd 0 (by omega); simpa using this, ?_⟩
  unfold dgs
  rcases hch with rfl | rfl
  · rw [if_neg (fun z => absurd z.1 (by decide))]
    simp at hm
    omega
  · rw [if_pos rfl] at hm he
    by_cases e2 : isD t n (p + 1) = true
    · rw [if_pos ⟨rfl, e2⟩]
      rcases he with h | h
      · exact h.symm
      · have : g = 1 ∨ g = 2 := by omega
        rcases this with rfl | rfl
        · rw [e2] at h; cases h
        · rfl
    · rw [if_neg (fun z => e2 z.2)]
      rcases he with h | h
      · exact absurd (hd 1 (by omega)) e2
      · have : g = 1 ∨ g = 2 := by omega
        rcases this with rfl | rfl
        · rfl
        · exact absurd (hd 1 (by omega)) e2
theorem c_X9_number {w : Wd} {m : Nat} {x f6 f7 : Nat → Int32} {t : Nat → Nat} {n p c : Nat} {e : Bool} (hW : PWm w m x f6 f7) (hT : TXT f6 t n) (hx : PX x p n c e) (hp : p ≤ n) {k ch : Nat} (hk : k < 3) (hc : c < 59) (hch : ch = 49 ∨ ch = 50) : MC 3 mX9_number 0 0 [.ref m, .int (nI k), .int (nI (if ch = 50 then 2 else 1))] w (RP (fun v w' => v = none ∧ F7 w w' m ∧ ∃ x', PWm w' m x' f6 (va_up f7 (3 * c + k) (nI (if e = true then 0 else if isD t n p = true then numA t p (dgs t n ch p) else 0))) ∧ PX x' (if e = true then p else if isD t n p = true then p + dgs t n ch p else p) n c (if e = true then true else !(isD t n p)) ∧ PK x x')) := by
  obtain ⟨mO, m6, m7⟩ := id hW
  obtain ⟨h18, h19, h20, h21⟩ := id hx
  have hn60 := hT.1
  refine MC_j pnX9 rfl rfl rfl (Or.inr (fun E w h => RP_no E w h)) ?_
  show J 3 mX9_number 0 [some (.ref m), some (.int (nI k)), some (.int (nI (if ch = 50 then 2 else 1))), none, none] [] w 0 0 _
  have fin : ∀ V g q ee xk w1, V = (if e = true then 0 else if isD t n p = true then numA t p (dgs t n ch p) else 0) → q = (if e = true then p else if isD t n p = true then p + dgs t n ch p else p) → (ee || decide (g = 0)) = (if e = true then true else !(isD t n p)) → g < 10 → PWm w1 m xk f6 f7 → PX xk q n c ee → PK x xk → F7 w w1 m → J 3 mX9_number 63 [some (.ref m), some (.int (nI k)), some (.int (nI (if ch = 50 then 2 else 1))), some (.int (nI V)), some (.int (nI g))] [] w1 0 0 (RP (fun v w' => v = none ∧ F7 w w' m ∧ ∃ x', PWm w' m x' f6 (va_up f7 (3 * c + k) (nI (if e = true then 0 else if isD t n p = true then numA t p (dgs t n ch p) else 0))) ∧ PX x' (if e = true then p else if isD t n p = true then p + dgs t n ch p else p) n c (if e = true then true else !(isD t n p)) ∧ PK x x')) := by
    intro V g q ee xk w1 hv hpos he hg hW hx hK hFr
    obtain ⟨mO, m6, m7⟩ := id hW
    obtain ⟨h18, h19, h20, h21⟩ := id hx
    refine J_aload_n dX9_number_63 rfl rfl ?_
    refine J_aload_n dX9_number_64 rfl rfl ?_
    refine J_getfield dX9_number_65 fX9_213 mO rfl ?_
    rw [h21]
    refine J_if_ne (tgt := 76) dX9_number_68 (by decide) (fun h68 => ?_) (fun h68 => ?_)
    · skip
      have e68 : ee = true := b2i_ne.mp h68
      refine J_iconst (v := nI 1) dX9_number_76 (by decide) ?_
      refine J_goto (tgt := 81) dX9_number_77 (by decide) ?_
      refine K_putZ dX9_number_81 fX9_213 (Or.inl rfl) mO (Nat.le_of_ble_eq_true rfl) (by decide) (fun w1 u1 => ?_)
      have m6 := (u1.2.1 _ (by omega)).trans m6
      have m7 := (u1.2.1 _ (by omega)).trans m7
      have mO := u1.1
      have mO : w1.1 m = .inr (9, [.int (xk 0), .ref (m + 1), .ref (m + 2), .ref (m + 3), .ref (m + 4), .ref (m + 5), .int (xk 6), .int (xk 7), .ref (m + 6), .ref (m + 7), .ref (m + 8), .ref (m + 9), .ref (m + 10), .int (xk 13), .int (xk 14), .int (xk 15), .int (xk 16), .int (xk 17), .int (xk 18), .int (xk 19), .int (xk 20), .int (nI 1)]) := mO
      refine J_aload_n dX9_number_84 rfl rfl ?_
      refine J_getfield dX9_number_85 fX9_28 mO rfl ?_
      refine J_iconst (v := nI 3) dX9_number_88 (by decide) ?_
      refine J_aload_n dX9_number_89 rfl rfl ?_
      refine J_getfield dX9_number_90 fX9_224 mO rfl ?_
      rw [h20]
      refine K_imul (v := nI (3 * c)) dX9_number_93 (nI_mul _ _) ?_
      refine J_iload_n dX9_number_94 rfl rfl ?_
      refine K_iadd (v := nI (3 * c + k)) dX9_number_95 (nI_add _ _) ?_
      refine J_iload_n dX9_number_96 rfl rfl ?_
      refine K_iast dX9_number_97 m7 (by omega) (by decide) (fun w2 u2 => ?_)
      have m6 := (u2.2.1 _ (by omega)).trans m6
      have m7 := u2.1
      have mO := (u2.2.1 _ (by omega)).trans mO
      exact J_return dX9_number_98 rfl (RP_i ⟨rfl, ((hFr.up u1 (by omega) (by omega)).up u2 (by omega) (by omega)), va_up xk 21 (nI 1), ⟨mO, m6, by rw [← hv]; exact m7⟩, ⟨(up_n _ _ (by decide)).trans (h18.trans (congrArg nI hpos)), (up_n _ _ (by decide)).trans h19, (up_n _ _ (by decide)).trans h20, (up_s _ _ _).trans (by rw [← he, e68, Bool.true_or]; rfl)⟩, fun j h1 h2 h3 => (up_n _ _ h3).trans (hK j h1 h2 h3)⟩)
    · skip
      have e68 : ee = false := b2i_eq.mp h68
      refine J_iload dX9_number_71 rfl ?_
      refine J_if_ne (tgt := 80) dX9_number_73 (by decide) (fun h73 => ?_) (fun h73 => ?_)
      · skip
        have h73 := mt (nI_eq (b := 0) (by omega) (by omega)).mpr h73
        refine J_iconst (v := nI 0) dX9_number_80 (by decide) ?_
        refine K_putZ dX9_number_81 fX9_213 (Or.inl rfl) mO (Nat.le_of_ble_eq_true rfl) (by decide) (fun w1 u1 => ?_)
        have m6 := (u1.2.1 _ (by omega)).trans m6
        have m7 := (u1.2.1 _ (by omega)).trans m7
        have mO := u1.1
        have mO : w1.1 m = .inr (9, [.int (xk 0), .ref (m + 1), .ref (m + 2), .ref (m + 3), .ref (m + 4), .ref (m + 5), .int (xk 6), .int (xk 7), .ref (m + 6), .ref (m + 7), .ref (m + 8), .ref (m + 9), .ref (m + 10), .int (xk 13), .int (xk 14), .int (xk 15), .int (xk 16), .int (xk 17), .int (xk 18), .int (xk 19), .int (xk 20), .int (nI 0)]) := mO
        refine J_aload_n dX9_number_84 rfl rfl ?_
        refine J_getfield dX9_number_85 fX9_28 mO rfl ?_
        refine J_iconst (v := nI 3) dX9_number_88 (by decide) ?_
        refine J_aload_n dX9_number_89 rfl rfl ?_
        refine J_getfield dX9_number_90 fX9_224 mO rfl ?_
        rw [h20]
        refine K_imul (v := nI (3 * c)) dX9_number_93 (nI_mul _ _) ?_
        refine J_iload_n dX9_number_94 rfl rfl ?_
        refine K_iadd (v := nI (3 * c + k)) dX9_number_95 (nI_add _ _) ?_
        refine J_iload_n dX9_number_96 rfl rfl ?_
        refine K_iast dX9_number_97 m7 (by omega) (by decide) (fun w2 u2 => ?_)
        have m6 := (u2.2.1 _ (by omega)).trans m6
        have m7 := u2.1
        have mO := (u2.2.1 _ (by omega)).trans mO
        exact J_return dX9_number_98 rfl (RP_i ⟨rfl, ((hFr.up u1 (by omega) (by omega)).up u2 (by omega) (by omega)), va_up xk 21 (nI 0), ⟨mO, m6, by rw [← hv]; exact m7⟩, ⟨(up_n _ _ (by decide)).trans (h18.trans (congrArg nI hpos)), (up_n _ _ (by decide)).trans h19, (up_n _ _ (by decide)).trans h20, (up_s _ _ _).trans (by rw [← he, e68, decide_eq_false h73]; rfl)⟩, fun j h1 h2 h3 => (up_n _ _ h3).trans (hK j h1 h2 h3)⟩)
      · skip
        have h73 := (nI_eq (b := 0) (by omega) (by omega)).mp h73
        refine J_iconst (v := nI 1) dX9_number_76 (by decide) ?_
        refine J_goto (tgt := 81) dX9_number_77 (by decide) ?_
        refine K_putZ dX9_number_81 fX9_213 (Or.inl rfl) mO (Nat.le_of_ble_eq_true rfl) (by decide) (fun w1 u1 => ?_)
        have m6 := (u1.2.1 _ (by omega)).trans m6
        have m7 := (u1.2.1 _ (by omega)).trans m7
        have mO := u1.1
        have mO : w1.1 m = .inr (9, [.int (xk 0), .ref (m + 1), .ref (m + 2), .ref (m + 3), .ref (m + 4), .ref (m + 5), .int (xk 6), .int (xk 7), .ref (m + 6), .ref (m + 7), .ref (m + 8), .ref (m + 9), .ref (m + 10), .int (xk 13), .int (xk 14), .int (xk 15), .int (xk 16), .int (xk 17), .int (xk 18), .int (xk 19), .int (xk 20), .int (nI 1)]) := mO
        refine J_aload_n dX9_number_84 rfl rfl ?_
        refine J_getfield dX9_number_85 fX9_28 mO rfl ?_
        refine J_iconst (v := nI 3) dX9_number_88 (by decide) ?_
        refine J_aload_n dX9_number_89 rfl rfl ?_
        refine J_getfield dX9_number_90 fX9_224 mO rfl ?_
        rw [h20]
        refine K_imul (v := nI (3 * c)) dX9_number_93 (nI_mul _ _) ?_
        refine J_iload_n dX9_number_94 rfl rfl ?_
        refine K_iadd (v := nI (3 * c + k)) dX9_number_95 (nI_add _ _) ?_
        refine J_iload_n dX9_number_96 rfl rfl ?_
        refine K_iast dX9_number_97 m7 (by omega) (by decide) (fun w2 u2 => ?_)
        have m6 := (u2.2.1 _ (by omega)).trans m6
        have m7 := u2.1
        have mO := (u2.2.1 _ (by omega)).trans mO
        exact J_return dX9_number_98 rfl (RP_i ⟨rfl, ((hFr.up u1 (by omega) (by omega)).up u2 (by omega) (by omega)), va_up xk 21 (nI 1), ⟨mO, m6, by rw [← hv]; exact m7⟩, ⟨(up_n _ _ (by decide)).trans (h18.trans (congrArg nI hpos)), (up_n _ _ (by decide)).trans h19, (up_n _ _ (by decide)).trans h20, (up_s _ _ _).trans (by rw [← he, e68, decide_eq_true h73]; rfl)⟩, fun j h1 h2 h3 => (up_n _ _ h3).trans (hK j h1 h2 h3)⟩)
  have loop : e = false → ∀ r g xk w1, r + g = (if ch = 50 then 2 else 1) → (∀ j, j < g → isD t n (p + j) = true) → PWm w1 m xk f6 f7 → PX xk (p + g) n c false → PK x xk → F7 w w1 m → J 3 mX9_number 5 [some (.ref m), some (.int (nI k)), some (.int (nI (if ch = 50 then 2 else 1))), some (.int (nI (numA t p g))), some (.int (nI g))] [] w1 0 0 (RP (fun v w' => v = none ∧ F7 w w' m ∧ ∃ x', PWm w' m x' f6 (va_up f7 (3 * c + k) (nI (if e = true then 0 else if isD t n p = true then numA t p (dgs t n ch p) else 0))) ∧ PX x' (if e = true then p else if isD t n p = true then p + dgs t n ch p else p) n c (if e = true then true else !(isD t n p)) ∧ PK x x')) := by
    intro he r
    subst he
    induction r with
    | zero =>
      intro g xk w1 q1 hd hW hx hK hFr
      obtain ⟨mO, m6, m7⟩ := id hW
      obtain ⟨h18, h19, h20, h21⟩ := id hx
      have hm2 : (if ch = 50 then 2 else 1) ≤ 2 := by split <;> omega
      refine J_aload_n dX9_number_5 rfl rfl ?_
      refine J_getfield dX9_number_6 fX9_213 mO rfl ?_
      rw [h21]
      refine J_if_ne (tgt := 63) dX9_number_9 (by decide) (fun h9 => absurd rfl h9) (fun h9 => ?_)
      refine J_iload dX9_number_12 rfl ?_
      refine J_iload_n dX9_number_14 rfl rfl ?_
      refine J_icmp_ge (tgt := 63) dX9_number_15 (by decide) (fun h15 => ?_) (fun h15 => absurd ((nI_leI (by omega) (by omega)).mpr (show (if ch = 50 then 2 else 1) ≤ g by omega)) h15)
      have hend : g = (if ch = 50 then 2 else 1) ∨ isD t n (p + g) = false := Or.inl (by omega)
      have hz : (g = 0 ∧ isD t n p = false) ∨ (isD t n p = true ∧ dgs t n ch p = g ∧ 1 ≤ g) := by
        by_cases z : g = 0
        · subst z
          exact Or.inl ⟨rfl, by rcases hend with y | y; · split at y <;> omega
                                · exact y⟩
        · have := dgs_of hch (show 1 ≤ g by omega) (by omega) hd hend
          exact Or.inr ⟨this.1, this.2, by omega⟩
      have hst : g < 10 := by have : (if ch = 50 then 2 else 1) ≤ 2 := by split <;> omega
                              omega
      rcases hz with ⟨y1, y2⟩ | ⟨y1, y2, y3⟩
      · subst y1
        exact fin _ _ _ false xk _ (by rw [if_neg (by decide), y2]; rfl) (by rw [if_neg (by decide), y2]; rfl) (by rw [if_neg (by decide), y2]; rfl) hst ⟨mO, m6, m7⟩ hx hK hFr
      · exact fin _ _ _ false xk _ (by rw [if_neg (by decide), if_pos y1, y2]) (by rw [if_neg (by decide), if_pos y1, y2]) (by rw [if_neg (by decide), y1, decide_eq_false (show ¬ g = 0 by omega)]; rfl) hst ⟨mO, m6, m7⟩ hx hK hFr
    | succ r ih =>
      intro g xk w1 q1 hd hW hx hK hFr
      obtain ⟨mO, m6, m7⟩ := id hW
      obtain ⟨h18, h19, h20, h21⟩ := id hx
      have hm2 : (if ch = 50 then 2 else 1) ≤ 2 := by split <;> omega
      have hpg : p + g ≤ n := by
        by_cases z : g = 0
        · subst z; exact hp
        · have := (isD_t.mp (hd (g - 1) (by omega))).1
          omega
      refine J_aload_n dX9_number_5 rfl rfl ?_
      refine J_getfield dX9_number_6 fX9_213 mO rfl ?_
      rw [h21]
      refine J_if_ne (tgt := 63) dX9_number_9 (by decide) (fun h9 => absurd rfl h9) (fun h9 => ?_)
      refine J_iload dX9_number_12 rfl ?_
      refine J_iload_n dX9_number_14 rfl rfl ?_
      refine J_icmp_ge (tgt := 63) dX9_number_15 (by decide) (fun h15 => ?_) (fun h15 => ?_)
      · skip
        have h15 := (nI_leI (by omega) (by omega)).mp h15
        have hend : g = (if ch = 50 then 2 else 1) ∨ isD t n (p + g) = false := Or.inl (by omega)
        have hz : (g = 0 ∧ isD t n p = false) ∨ (isD t n p = true ∧ dgs t n ch p = g ∧ 1 ≤ g) := by
          by_cases z : g = 0
          · subst z
            exact Or.inl ⟨rfl, by rcases hend with y | y; · split at y <;> omega
                                  · exact y⟩
          · have := dgs_of hch (show 1 ≤ g by omega) (by omega) hd hend
            exact Or.inr ⟨this.1, this.2, by omega⟩
        have hst : g < 10 := by have : (if ch = 50 then 2 else 1) ≤ 2 := by split <;> omega
                                omega
        rcases hz with ⟨y1, y2⟩ | ⟨y1, y2, y3⟩
        · subst y1
          exact fin _ _ _ false xk _ (by rw [if_neg (by decide), y2]; rfl) (by rw [if_neg (by decide), y2]; rfl) (by rw [if_neg (by decide), y2]; rfl) hst ⟨mO, m6, m7⟩ hx hK hFr
        · exact fin _ _ _ false xk _ (by rw [if_neg (by decide), if_pos y1, y2]) (by rw [if_neg (by decide), if_pos y1, y2]) (by rw [if_neg (by decide), y1, decide_eq_false (show ¬ g = 0 by omega)]; rfl) hst ⟨mO, m6, m7⟩ hx hK hFr
      · skip
        have h15 := mt (nI_leI (by omega) (by omega)).mpr h15
        refine J_aload_n dX9_number_18 rfl rfl ?_
        refine J_iconst (v := nI 0) dX9_number_19 (by decide) ?_
        refine K_callV dX9_number_20 YX9_here kX9_217 (rc_of mO rfl) (c_X9_here (x := xk) ⟨mO, m6, m7⟩ hT hx hpg (d := 0) (by omega)) rfl rfl (Nat.le_of_ble_eq_true rfl) (by decide) ?_
        refine J_bipush (v := nI 48) dX9_number_23 (by decide) ?_
        refine J_bipush (v := nI 57) dX9_number_25 (by decide) ?_
        refine K_callS dX9_number_27 YX9_in kX9_63 (hvv_dig (i := p + g) hT ▸ c_X9_in (hvv t n (p + g)) (nI 48) (nI 57)) rfl rfl (Nat.le_of_ble_eq_true rfl) (by decide) ?_
        refine J_if_eq (tgt := 63) dX9_number_30 (by decide) (fun h30 => ?_) (fun h30 => ?_)
        · skip
          have e30 : isD t n (p + g) = false := b2i_eq.mp h30
          have hend : g = (if ch = 50 then 2 else 1) ∨ isD t n (p + g) = false := Or.inr e30
          have hz : (g = 0 ∧ isD t n p = false) ∨ (isD t n p = true ∧ dgs t n ch p = g ∧ 1 ≤ g) := by
            by_cases z : g = 0
            · subst z
              exact Or.inl ⟨rfl, by rcases hend with y | y; · split at y <;> omega
                                    · exact y⟩
            · have := dgs_of hch (show 1 ≤ g by omega) (by omega) hd hend
              exact Or.inr ⟨this.1, this.2, by omega⟩
          have hst : g < 10 := by have : (if ch = 50 then 2 else 1) ≤ 2 := by split <;> omega
                                  omega
          rcases hz with ⟨y1, y2⟩ | ⟨y1, y2, y3⟩
          · subst y1
            exact fin _ _ _ false xk _ (by rw [if_neg (by decide), y2]; rfl) (by rw [if_neg (by decide), y2]; rfl) (by rw [if_neg (by decide), y2]; rfl) hst ⟨mO, m6, m7⟩ hx hK hFr
          · exact fin _ _ _ false xk _ (by rw [if_neg (by decide), if_pos y1, y2]) (by rw [if_neg (by decide), if_pos y1, y2]) (by rw [if_neg (by decide), y1, decide_eq_false (show ¬ g = 0 by omega)]; rfl) hst ⟨mO, m6, m7⟩ hx hK hFr
        · skip
          have e30 : isD t n (p + g) = true := b2i_ne.mp h30
          obtain ⟨hv1, hv2, hv3⟩ := hvv_d hT e30
          have hpn := (isD_t.mp e30).1
          refine J_bipush (v := nI 10) dX9_number_33 (by decide) ?_
          refine J_iload_n dX9_number_35 rfl rfl ?_
          refine K_imul (v := nI (10 * (numA t p g))) dX9_number_36 (nI_mul _ _) ?_
          refine J_aload_n dX9_number_37 rfl rfl ?_
          refine J_iconst (v := nI 0) dX9_number_38 (by decide) ?_
          refine K_callV dX9_number_39 YX9_here kX9_217 (rc_of mO rfl) (c_X9_here (x := xk) ⟨mO, m6, m7⟩ hT hx hpg (d := 0) (by omega)) rfl rfl (Nat.le_of_ble_eq_true rfl) (by decide) ?_
          rw [show hvv t n (p + g + 0) = nI (t (p + g)) from hv1]
          refine K_iadd (v := nI (10 * (numA t p g) + (t (p + g)))) dX9_number_42 (nI_add _ _) ?_
          refine J_bipush (v := nI 48) dX9_number_43 (by decide) ?_
          refine K_isub (v := nI (numA t p (g + 1))) dX9_number_45 (nI_sub (by omega)) ?_
          refine J_istore_n dX9_number_46 rfl (by decide) rfl ?_
          refine J_aload_n dX9_number_47 rfl rfl ?_
          refine J_dup dX9_number_48 rfl ?_
          refine J_getfield dX9_number_49 fX9_202 mO rfl ?_
          rw [h18]
          refine J_iconst (v := nI 1) dX9_number_52 (by decide) ?_
          refine K_iadd (v := nI (p + g + 1)) dX9_number_53 (nI_add _ _) ?_
          refine K_putI dX9_number_54 fX9_202 (Or.inl rfl) mO (Nat.le_of_ble_eq_true rfl) (fun w1 u1 => ?_)
          have m6 := (u1.2.1 _ (by omega)).trans m6
          have m7 := (u1.2.1 _ (by omega)).trans m7
          have mO := u1.1
          have mO : w1.1 m = .inr (9, [.int (xk 0), .ref (m + 1), .ref (m + 2), .ref (m + 3), .ref (m + 4), .ref (m + 5), .int (xk 6), .int (xk 7), .ref (m + 6), .ref (m + 7), .ref (m + 8), .ref (m + 9), .ref (m + 10), .int (xk 13), .int (xk 14), .int (xk 15), .int (xk 16), .int (xk 17), .int (nI (p + g + 1)), .int (xk 19), .int (xk 20), .int (xk 21)]) := mO
          refine J_iinc (v := nI (g + 1)) dX9_number_57 rfl (nI_succ _).symm (by decide) rfl ?_
          refine J_goto (tgt := 5) dX9_number_60 (by decide) ?_
          exact ih (g + 1) (va_up xk 18 (nI (p + g + 1))) _ (by omega) (fun j hj => by
            by_cases z : j = g
            · subst z; exact e30
            · exact hd j (by omega)) ⟨mO, m6, m7⟩ ⟨up_s _ _ _, (up_n _ _ (by decide)).trans h19, (up_n _ _ (by decide)).trans h20, (up_n _ _ (by decide)).trans h21⟩ (fun j h1 h2 h3 => (up_n _ _ h1).trans (hK j h1 h2 h3)) (hFr.up u1 (by omega) (by omega))
  cases e with
  | true =>
    refine J_iconst (v := nI 0) dX9_number_0 (by decide) ?_
    refine J_istore_n dX9_number_1 rfl (by decide) rfl ?_
    refine J_iconst (v := nI 0) dX9_number_2 (by decide) ?_
    refine J_istore dX9_number_3 (by decide) rfl ?_
    refine J_aload_n dX9_number_5 rfl rfl ?_
    refine J_getfield dX9_number_6 fX9_213 mO rfl ?_
    rw [h21]
    refine J_if_ne (tgt := 63) dX9_number_9 (by decide) (fun h9 => ?_) (fun h9 => absurd (show b2i true = 0 from h9) (by decide))
    exact fin 0 0 p true x _ (by rw [if_pos rfl]) (by rw [if_pos rfl]) (by rw [if_pos rfl]; rfl) (by omega) hW hx (fun _ _ _ _ => rfl) (F7.rf _ _)
  | false =>
    refine J_iconst (v := nI 0) dX9_number_0 (by decide) ?_
    refine J_istore_n dX9_number_1 rfl (by decide) rfl ?_
    refine J_iconst (v := nI 0) dX9_number_2 (by decide) ?_
    refine J_istore dX9_number_3 (by decide) rfl ?_
    exact loop rfl (if ch = 50 then 2 else 1) 0 x w (by omega) (fun j hj => by omega) hW hx (fun _ _ _ _ => rfl) (F7.rf _ _)

end JMPARSE

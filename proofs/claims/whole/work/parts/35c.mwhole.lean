/-! THE MODEL WHOLE -/
section JMWHOLE
theorem pushN_le {c : Nat} (h : c ≤ 8) : pushN c ≤ 8 ∧ 1 ≤ pushN c := by unfold pushN; split <;> omega
theorem push_fit {f4 f4' f2 : Nat → Int32} {P : Nat → St} {c : Nat} {K : St} (hc : c ≤ 8) (hP : ∀ j, j < c → FitM (fun k => f4 (116 * j + k)) (P j)) (hK : FitM f2 K)
    (h1 : c = 8 → ∀ i, i < 812 → f4' i = f4 (i + 116)) (h2 : c ≠ 8 → ∀ i, i < 116 * c → f4' i = f4 i) (h3 : ∀ k, k < 116 → f4' (116 * (pushN c - 1) + k) = f2 k) : ∀ j, j < pushN c → FitM (fun k => f4' (116 * j + k)) (pushP P c K j) := by
  intro j hj
  unfold pushN at hj h3
  unfold pushP
  by_cases e : c = 8
  · rw [if_pos e] at hj h3 ⊢
    by_cases e2 : j = 7
    · subst e2
      show FitM _ (if (7 : Nat) = 7 then K else P (7 + 1))
      rw [if_pos rfl]
      exact fit_kept hK (fun i hi => h3 i hi)
    · show FitM _ (if j = 7 then K else P (j + 1))
      rw [if_neg e2]
      refine fit_kept (hP (j + 1) (by omega)) (fun i hi => ?_)
      show f4' (116 * j + i) = f4 (116 * (j + 1) + i)
      rw [h1 e _ (by omega)]
      congr 1
      omega
  · rw [if_neg e] at hj h3 ⊢
    by_cases e2 : j = c
    · subst e2
      rw [up_s]
      exact fit_kept hK (fun i hi => h3 i hi)
    · rw [up_n _ _ e2]
      exact fit_kept (hP j (by omega)) (fun i hi => h2 e _ (by omega))
theorem c_X9_changed {w : Wd} {m : Nat} {x f2 f4 : Nat → Int32} {P : Nat → St} {c : Nat} {K : St} (mO : w.1 m = mCell m x) (m2 : w.1 (m + 2) = .inl (0, 116, .inl f2)) (m4 : w.1 (m + 4) = .inl (0, 928, .inl f4)) (hx6 : x 6 = nI c) (hc : c ≤ 8) (hP : ∀ j, j < c → FitM (fun k => f4 (116 * j + k)) (P j)) (hK : FitM f2 K) (y : Int32) : MC 2 mX9_changed 0 0 [.ref m, .int y] w (RP (fun v w' => v = some (.int y) ∧ (∀ b : Nat, b ≠ m → b ≠ m + 4 → w'.1 b = w.1 b) ∧ w'.2.1 = w.2.1 ∧ w'.1 m = mCell m (va_up x 6 (nI (pushN c))) ∧ ∃ f4' : Nat → Int32, w'.1 (m + 4) = .inl (0, 928, .inl f4') ∧ ∀ j, j < pushN c → FitM (fun k => f4' (116 * j + k)) (pushP P c K j))) := by
  refine MC_j pnX9 rfl rfl rfl (Or.inr (fun E w h => RP_no E w h)) ?_
  show J 2 mX9_changed 0 [some (.ref m), some (.int y), none] [] w 0 0 _
  have hpl := pushN_le hc
  have second : ∀ fs w1 o2, w1.1 m = mCell m (va_up x 6 (nI (pushN c))) → w1.1 (m + 2) = .inl (0, 116, .inl f2) → w1.1 (m + 4) = .inl (0, 928, .inl fs) → (c = 8 → ∀ i, i < 812 → fs i = f4 (i + 116)) → (c ≠ 8 → ∀ i, i < 116 * c → fs i = f4 i) → (∀ b : Nat, b ≠ m → b ≠ m + 4 → w1.1 b = w.1 b) → w1.2.1 = w.2.1 → J 2 mX9_changed 52 [some (.ref m), some (.int y), o2] [] w1 0 0 (RP (fun v w' => v = some (.int y) ∧ (∀ b : Nat, b ≠ m → b ≠ m + 4 → w'.1 b = w.1 b) ∧ w'.2.1 = w.2.1 ∧ w'.1 m = mCell m (va_up x 6 (nI (pushN c))) ∧ ∃ f4' : Nat → Int32, w'.1 (m + 4) = .inl (0, 928, .inl f4') ∧ ∀ j, j < pushN c → FitM (fun k => f4' (116 * j + k)) (pushP P c K j))) := by
    intro fs w1 o2 mO m2 mD hs1 hs2 hX hX2
    have loop : ∀ n k fd w1, 116 < n + k → k ≤ 116 → w1.1 m = mCell m (va_up x 6 (nI (pushN c))) → w1.1 (m + 2) = .inl (0, 116, .inl f2) → w1.1 (m + 4) = .inl (0, 928, .inl fd) → (∀ i, i < 116 * (pushN c - 1) → fd i = fs i) → (∀ j, j < k → fd (116 * (pushN c - 1) + j) = f2 j) → (∀ b : Nat, b ≠ m → b ≠ m + 4 → w1.1 b = w.1 b) → w1.2.1 = w.2.1 → J 2 mX9_changed 54 [some (.ref m), some (.int y), some (.int (nI k))] [] w1 0 0 (RP (fun v w' => v = some (.int y) ∧ (∀ b : Nat, b ≠ m → b ≠ m + 4 → w'.1 b = w.1 b) ∧ w'.2.1 = w.2.1 ∧ w'.1 m = mCell m (va_up x 6 (nI (pushN c))) ∧ ∃ f4' : Nat → Int32, w'.1 (m + 4) = .inl (0, 928, .inl f4') ∧ ∀ j, j < pushN c → FitM (fun k => f4' (116 * j + k)) (pushP P c K j))) := by
      intro n
      induction n with
      | zero => intros; omega
      | succ n ih =>
        intro k fd w1 q1 q2 mO m2 mD hold hrow hX hX2
        refine J_iload_n dX9_changed_54 rfl rfl ?_
        refine J_bipush (v := nI 116) dX9_changed_55 (by decide) ?_
        refine J_icmp_ge (tgt := 88) dX9_changed_57 (by decide) (fun h57 => ?_) (fun h57 => ?_)
        · skip
          have h57 := (nI_leI (by omega) (by omega)).mp h57
          
          refine J_iload_n dX9_changed_88 rfl rfl ?_
          exact J_ireturn dX9_changed_89 rfl rfl (RP_i ⟨rfl, hX, hX2, mO, _, mD, push_fit hc hP hK (fun e i hi => (hold i (by unfold pushN; rw [if_pos e]; omega)).trans (hs1 e i hi)) (fun e i hi => (hold i (by unfold pushN; rw [if_neg e]; omega)).trans (hs2 e i hi)) (fun i hi => hrow i (by omega))⟩)
        · skip
          have h57 := mt (nI_leI (by omega) (by omega)).mpr h57
          refine J_aload_n dX9_changed_60 rfl rfl ?_
          refine J_getfield dX9_changed_61 fX9_19 mO rfl ?_
          refine J_bipush (v := nI 116) dX9_changed_64 (by decide) ?_
          refine J_aload_n dX9_changed_66 rfl rfl ?_
          refine J_getfield dX9_changed_67 fX9_50 mO rfl ?_
          refine J_iconst (v := nI 1) dX9_changed_70 (by decide) ?_
          refine K_isub (v := nI (pushN c - 1)) dX9_changed_71 (nI_sub (by omega)) ?_
          refine K_imul (v := nI (116 * (pushN c - 1))) dX9_changed_72 (nI_mul _ _) ?_
          refine J_iload_n dX9_changed_73 rfl rfl ?_
          refine K_iadd (v := nI (116 * (pushN c - 1) + k)) dX9_changed_74 (nI_add _ _) ?_
          refine J_aload_n dX9_changed_75 rfl rfl ?_
          refine J_getfield dX9_changed_76 fX9_13 mO rfl ?_
          refine J_iload_n dX9_changed_79 rfl rfl ?_
          refine K_iald (v := f2 k) dX9_changed_80 m2 (by omega) (by decide) rfl ?_
          refine K_iast dX9_changed_81 mD (by omega) (by decide) (fun w1 u1 => ?_)
          have m2 := (u1.2.1 _ (by omega)).trans m2
          have mD := u1.1
          have mO := (u1.2.1 _ (by omega)).trans mO
          refine J_iinc (v := nI (k + 1)) dX9_changed_82 rfl (nI_succ _).symm (by decide) rfl ?_
          refine J_goto (tgt := 54) dX9_changed_85 (by decide) ?_
          exact ih (k + 1) _ _ (by omega) (by omega) mO m2 mD (fun i hi => by
            by_cases e : i = 116 * (pushN c - 1) + k
            · omega
            · rw [up_n _ _ e]; exact hold i hi) (fun j hj => by
            by_cases e : j = k
            · subst e; rw [up_s]
            · rw [up_n _ _ (by omega)]; exact hrow j (by omega)) (fun b h1 h2 => (u1.2.1 b (by omega)).trans (hX b h1 h2)) ((congrArg Prod.fst u1.2.2).trans hX2)
    refine J_iconst (v := nI 0) dX9_changed_52 (by decide) ?_
    refine J_istore_n dX9_changed_53 rfl (by decide) rfl ?_
    exact loop 117 0 _ _ (by omega) (by omega) mO m2 mD (fun i _ => rfl) (fun j hj => by omega) hX hX2
  have shift : c = 8 → ∀ n k fd w1, 812 < n + k → k ≤ 812 → w1.1 m = mCell m x → w1.1 (m + 2) = .inl (0, 116, .inl f2) → w1.1 (m + 4) = .inl (0, 928, .inl fd) → (∀ j, j < k → fd j = f4 (j + 116)) → (∀ j, k ≤ j → fd j = f4 j) → (∀ b : Nat, b ≠ m → b ≠ m + 4 → w1.1 b = w.1 b) → w1.2.1 = w.2.1 → J 2 mX9_changed 11 [some (.ref m), some (.int y), some (.int (nI k))] [] w1 0 0 (RP (fun v w' => v = some (.int y) ∧ (∀ b : Nat, b ≠ m → b ≠ m + 4 → w'.1 b = w.1 b) ∧ w'.2.1 = w.2.1 ∧ w'.1 m = mCell m (va_up x 6 (nI (pushN c))) ∧ ∃ f4' : Nat → Int32, w'.1 (m + 4) = .inl (0, 928, .inl f4') ∧ ∀ j, j < pushN c → FitM (fun k => f4' (116 * j + k)) (pushP P c K j))) := by
    intro e8 n
    induction n with
    | zero => intros; omega
    | succ n ih =>
      intro k fd w1 q1 q2 mO m2 mD hrow hrest hX hX2
      refine J_iload_n dX9_changed_11 rfl rfl ?_
      refine J_sipush (v := nI 812) dX9_changed_12 (by decide) ?_
      refine J_icmp_ge (tgt := 39) dX9_changed_15 (by decide) (fun h15 => ?_) (fun h15 => ?_)
      · skip
        have h15 := (nI_leI (by omega) (by omega)).mp h15
        have ek : k = 812 := by omega
        refine J_goto (tgt := 52) dX9_changed_39 (by decide) ?_
        exact second _ _ _ (by rw [va_id (by rw [hx6]; unfold pushN; rw [if_pos e8, e8])]; exact mO) m2 mD (fun _ i hi => hrow i (by omega)) (fun z => absurd e8 z) hX hX2
      · skip
        have h15 := mt (nI_leI (by omega) (by omega)).mpr h15
        refine J_aload_n dX9_changed_18 rfl rfl ?_
        refine J_getfield dX9_changed_19 fX9_19 mO rfl ?_
        refine J_iload_n dX9_changed_22 rfl rfl ?_
        refine J_aload_n dX9_changed_23 rfl rfl ?_
        refine J_getfield dX9_changed_24 fX9_19 mO rfl ?_
        refine J_iload_n dX9_changed_27 rfl rfl ?_
        refine J_bipush (v := nI 116) dX9_changed_28 (by decide) ?_
        refine K_iadd (v := nI (k + 116)) dX9_changed_30 (nI_add _ _) ?_
        refine K_iald (v := f4 (k + 116)) dX9_changed_31 mD (by omega) (by decide) (hrest _ (by omega)) ?_
        refine K_iast dX9_changed_32 mD (by omega) (by decide) (fun w1 u1 => ?_)
        have m2 := (u1.2.1 _ (by omega)).trans m2
        have mD := u1.1
        have mO := (u1.2.1 _ (by omega)).trans mO
        refine J_iinc (v := nI (k + 1)) dX9_changed_33 rfl (nI_succ _).symm (by decide) rfl ?_
        refine J_goto (tgt := 11) dX9_changed_36 (by decide) ?_
        exact ih (k + 1) _ _ (by omega) (by omega) mO m2 mD (fun j hj => by
          by_cases e : j = k
          · subst e; rw [up_s]
          · rw [up_n _ _ e]; exact hrow j (by omega)) (fun j hj => by rw [up_n _ _ (by omega)]; exact hrest j (by omega)) (fun b h1 h2 => (u1.2.1 b (by omega)).trans (hX b h1 h2)) ((congrArg Prod.fst u1.2.2).trans hX2)
  refine J_aload_n dX9_changed_0 rfl rfl ?_
  refine J_getfield dX9_changed_1 fX9_50 mO rfl ?_
  refine J_bipush (v := nI 8) dX9_changed_4 (by decide) ?_
  refine J_icmp_ne (tgt := 42) dX9_changed_6 (by decide) (fun h6 => ?_) (fun h6 => ?_)
  · skip
    have e8 : c ≠ 8 := fun z => h6 (by rw [hx6, z])
    refine J_aload_n dX9_changed_42 rfl rfl ?_
    refine J_dup dX9_changed_43 rfl ?_
    refine J_getfield dX9_changed_44 fX9_50 mO rfl ?_
    refine J_iconst (v := nI 1) dX9_changed_47 (by decide) ?_
    refine K_iadd (v := nI (pushN c)) dX9_changed_48 (by rw [hx6]; unfold pushN; rw [if_neg e8]; exact nI_add c 1) ?_
    refine K_putI dX9_changed_49 fX9_50 (Or.inl rfl) mO (Nat.le_of_ble_eq_true rfl) (fun w1 u1 => ?_)
    have m2 := (u1.2.1 _ (by omega)).trans m2
    have m4 := (u1.2.1 _ (by omega)).trans m4
    have mO := u1.1
    have mO : w1.1 m = .inr (9, [.int (x 0), .ref (m + 1), .ref (m + 2), .ref (m + 3), .ref (m + 4), .ref (m + 5), .int (nI (pushN c)), .int (x 7), .ref (m + 6), .ref (m + 7), .ref (m + 8), .ref (m + 9), .ref (m + 10), .int (x 13), .int (x 14), .int (x 15), .int (x 16), .int (x 17), .int (x 18), .int (x 19), .int (x 20), .int (x 21)]) := mO
    exact second _ _ _ mO m2 m4 (fun z => absurd z e8) (fun _ i hi => rfl) (fun b h1 h2 => u1.2.1 b h1) (congrArg Prod.fst u1.2.2)
  · skip
    have e8 : c = 8 := by
      rw [hx6] at h6
      exact nI_inj (by omega) (by omega) h6
    refine J_iconst (v := nI 0) dX9_changed_9 (by decide) ?_
    refine J_istore_n dX9_changed_10 rfl (by decide) rfl ?_
    exact shift e8 813 0 _ _ (by omega) (by omega) mO m2 m4 (fun j hj => by omega) (fun j _ => rfl) (fun b _ _ => rfl) rfl

end JMWHOLE

/-! THE MODEL: its questions, more -/
section JMASK2
theorem cyc_end {S : St} (hw : WF S) {t k : Nat} {o : Option Nat} (ht : t < sNt S) (hk : it (bk S) (k + 1) t = o) (hno : ∀ j, 1 ≤ j → j ≤ k → it (bk S) j t ≠ some t) (he : 6 ≤ k ∨ o = none ∨ o = some t) : cycB (bk S) t = decide (o = some t) := by
  have hnt := hw.nt
  have hB : ∀ t u, bk S t = some u → u < sNt S := fun t u e => bk_lt e
  by_cases e : o = some t
  · rw [decide_eq_true e]
    exact cycB_t.mpr ⟨k + 1, by omega, hk.trans e⟩
  · rw [decide_eq_false e]
    rcases he with h | h | h
    · exact cyc_no hB ht (fun j h1 h2 => hno j h1 (by omega))
    · refine cyc_dead (k := k + 1) (fun j h1 h2 => ?_) (hk.trans h)
      by_cases z : j = k + 1
      · subst z; rw [hk]; exact e
      · exact hno j h1 (by omega)
    · exact absurd h e
theorem c_X9_deadlocked {w : Wd} {m : Nat} {G : Gme} {th : Nat} (hM : RepM w m G th)  : MC 6 mX9_deadlocked 0 0 [.ref m] w (GM w m [] (gQ G (ok0 (nI (stN (gS G)))))) := by
  obtain ⟨x, f2, f3, f4, f5, f6, f7, f8, hA, ⟨m2, m3, m4, m5, m6, m7, m8⟩, hx0, hRx, hRd⟩ := id hM
  obtain ⟨x6, x7, x13, x14, x15, x16⟩ := id hRx
  obtain ⟨hV, hP, hT, hO, ⟨hb8, hb60, hb14⟩, hE, hF⟩ := id hRd
  obtain ⟨f, g, h, mO, mS, mF, mK, hfit⟩ := id hA
  have hwf := hfit.2.2.2.2
  have hnb := hwf.nb
  have hnt := hwf.nt
  refine MC_j pnX9 rfl rfl rfl (Or.inr (fun E w h => RP_no E w h)) ?_
  show J 6 mX9_deadlocked 0 [some (.ref m), none, none, none, none] [] w 0 0 _
  have second : ∀ h1 g1 w1 o2 o3 o4, w1.1 m = mCell m (va_up x 0 (nI 0)) → w1.1 (m + 1) = .inl (0, 116, .inl f) → w1.1 (m + 2) = .inl (0, 116, .inl f2) → w1.1 (m + 3) = .inl (0, 116, .inl f3) → w1.1 (m + 4) = .inl (0, 928, .inl f4) → w1.1 (m + 5) = .inl (0, 116, .inl f5) → w1.1 (m + 6) = .inl (0, 60, .inl f6) → w1.1 (m + 7) = .inl (0, 180, .inl f7) → w1.1 (m + 8) = .inl (0, 40, .inl f8) → w1.1 (m + 9) = .inl (0, 14, .inl g1) → w1.1 (m + 10) = .inl (0, 14, .inl h1) → Fr w w1 m (m + 11) → (∀ t, t < sNt (gS G) → h1 t = oI (bk (gS G) t)) → J 6 mX9_deadlocked 36 [some (.ref m), some (.int (nI 0)), o2, o3, o4] [] w1 0 0 (GM w m [] (gQ G (ok0 (nI (stN (gS G)))))) := by
    intro h1 g1 w1 o2 o3 o4 mO mS m2 m3 m4 m5 m6 m7 m8 mF mK hFr hrow
    have mO : w1.1 m = .inr (9, [.int (nI 0), .ref (m + 1), .ref (m + 2), .ref (m + 3), .ref (m + 4), .ref (m + 5), .int (x 6), .int (x 7), .ref (m + 6), .ref (m + 7), .ref (m + 8), .ref (m + 9), .ref (m + 10), .int (x 13), .int (x 14), .int (x 15), .int (x 16), .int (x 17), .int (x 18), .int (x 19), .int (x 20), .int (x 21)]) := mO
    have loopt : ∀ n t o3 o4, sNt (gS G) < n + t → t ≤ sNt (gS G) → J 6 mX9_deadlocked 38 [some (.ref m), some (.int (nI (cnt t (cycB (bk (gS G)))))), some (.int (nI t)), o3, o4] [] w1 0 0 (GM w m [] (gQ G (ok0 (nI (stN (gS G)))))) := by
      intro n
      induction n with
      | zero => intros; omega
      | succ n iht =>
        intro t o3 o4 q1 q2
        have follow : t < sNt (gS G) → ∀ p k o, (∀ z, o = some z → z < 2 ^ 31) → 7 < p + k → k ≤ 6 → it (bk (gS G)) (k + 1) t = o → (∀ j, 1 ≤ j → j ≤ k → it (bk (gS G)) j t ≠ some t) → J 6 mX9_deadlocked 58 [some (.ref m), some (.int (nI (cnt t (cycB (bk (gS G)))))), some (.int (nI t)), some (.int (oI o)), some (.int (nI k))] [] w1 0 0 (GM w m [] (gQ G (ok0 (nI (stN (gS G)))))) := by
          intro hts
          have fin : ∀ o o4, (∀ z, o = some z → z < 2 ^ 31) → cycB (bk (gS G)) t = decide (o = some t) → J 6 mX9_deadlocked 88 [some (.ref m), some (.int (nI (cnt t (cycB (bk (gS G)))))), some (.int (nI t)), some (.int (oI o)), o4] [] w1 0 0 (GM w m [] (gQ G (ok0 (nI (stN (gS G)))))) := by
            intro o o4 ho hcy
            refine J_iload_n dX9_deadlocked_88 rfl rfl ?_
            refine J_iload_n dX9_deadlocked_89 rfl rfl ?_
            refine J_iload_n dX9_deadlocked_90 rfl rfl ?_
            refine J_icmp_ne (tgt := 98) dX9_deadlocked_91 (by decide) (fun h91 => ?_) (fun h91 => ?_)
            · skip
              have e91 : ¬ o = some t := mt (oI_nI ho (by omega)).mpr h91
              refine J_iconst (v := nI 0) dX9_deadlocked_98 (by decide) ?_
              refine K_iadd (v := nI (cnt t (cycB (bk (gS G))) + 0)) dX9_deadlocked_99 (nI_add _ _) ?_
              refine J_istore_n dX9_deadlocked_100 rfl (by decide) rfl ?_
              refine J_iinc (v := nI (t + 1)) dX9_deadlocked_101 rfl (nI_succ _).symm (by decide) rfl ?_
              refine J_goto (tgt := 38) dX9_deadlocked_104 (by decide) ?_
              have ec := cnt_f (p := cycB (bk (gS G))) (n := t) (by rw [hcy, decide_eq_false e91])
              rw [← ec]
              exact iht (t + 1) _ _ (by omega) (by omega)
            · skip
              have e91 : o = some t := (oI_nI ho (by omega)).mp h91
              refine J_iconst (v := nI 1) dX9_deadlocked_94 (by decide) ?_
              refine J_goto (tgt := 99) dX9_deadlocked_95 (by decide) ?_
              refine K_iadd (v := nI (cnt t (cycB (bk (gS G))) + 1)) dX9_deadlocked_99 (nI_add _ _) ?_
              refine J_istore_n dX9_deadlocked_100 rfl (by decide) rfl ?_
              refine J_iinc (v := nI (t + 1)) dX9_deadlocked_101 rfl (nI_succ _).symm (by decide) rfl ?_
              refine J_goto (tgt := 38) dX9_deadlocked_104 (by decide) ?_
              have ec := cnt_t (p := cycB (bk (gS G))) (n := t) (by rw [hcy, decide_eq_true e91])
              rw [← ec]
              exact iht (t + 1) _ _ (by omega) (by omega)
          intro p
          induction p with
          | zero => intros; omega
          | succ p ihp =>
            intro k o ho q3 q4 hit hno
            refine J_iload dX9_deadlocked_58 rfl ?_
            refine J_bipush (v := nI 6) dX9_deadlocked_60 (by decide) ?_
            refine J_icmp_ge (tgt := 88) dX9_deadlocked_62 (by decide) (fun h62 => ?_) (fun h62 => ?_)
            · have h62 := (nI_leI (by omega) (by omega)).mp h62
              exact fin o _ ho (cyc_end hwf hts hit hno (Or.inl h62))
            · have h62 := mt (nI_leI (by omega) (by omega)).mpr h62
              refine J_iload_n dX9_deadlocked_65 rfl rfl ?_
              refine J_iconst (v := (-1)) dX9_deadlocked_66 (by decide) ?_
              refine J_icmp_eq (tgt := 88) dX9_deadlocked_67 (by decide) (fun h67 => ?_) (fun h67 => ?_)
              · exact fin o _ ho (cyc_end hwf hts hit hno (Or.inr (Or.inl ((oI_m1 ho).mp h67))))
              · refine J_iload_n dX9_deadlocked_70 rfl rfl ?_
                refine J_iload_n dX9_deadlocked_71 rfl rfl ?_
                refine J_icmp_eq (tgt := 88) dX9_deadlocked_72 (by decide) (fun h72 => ?_) (fun h72 => ?_)
                · exact fin o _ ho (cyc_end hwf hts hit hno (Or.inr (Or.inr ((oI_nI ho (by omega)).mp h72))))
                · have e72 := mt (oI_nI ho (by omega)).mpr h72
                  cases o with
                  | none => exact absurd rfl h67
                  | some u =>
                    have hu : u < sNt (gS G) := it_lt (fun t u e => bk_lt e) hts hit
                    refine J_aload_n dX9_deadlocked_75 rfl rfl ?_
                    refine J_getfield dX9_deadlocked_76 fX9_37 mO rfl ?_
                    refine J_iload_n dX9_deadlocked_79 rfl rfl ?_
                    refine K_iald (k := u) (v := oI (bk (gS G) u)) dX9_deadlocked_80 mK (by omega) (by decide) (hrow u hu) ?_
                    refine J_istore_n dX9_deadlocked_81 rfl (by decide) rfl ?_
                    refine J_iinc (v := nI (k + 1)) dX9_deadlocked_82 rfl (nI_succ _).symm (by decide) rfl ?_
                    refine J_goto (tgt := 58) dX9_deadlocked_85 (by decide) ?_
                    exact ihp (k + 1) _ (bk_b hwf) (by omega) (by omega) (by show (it (bk (gS G)) (k + 1) t).bind (bk (gS G)) = _; rw [hit]; rfl) (fun j h1 h2 => by
                      by_cases z : j = k + 1
                      · subst z; rw [hit]; exact e72
                      · exact hno j h1 (by omega))
        refine J_iload_n dX9_deadlocked_38 rfl rfl ?_
        refine J_aload_n dX9_deadlocked_39 rfl rfl ?_
        refine J_getfield dX9_deadlocked_40 fX9_7 mO rfl ?_
        refine J_iconst (v := nI 1) dX9_deadlocked_43 (by decide) ?_
        refine K_iald (v := nI (sNt (gS G))) dX9_deadlocked_44 mS (by omega) (by decide) hfit.1.2.1 ?_
        refine J_icmp_ge (tgt := 107) dX9_deadlocked_45 (by decide) (fun h45 => ?_) (fun h45 => ?_)
        · skip
          have h45 := (nI_leI (by omega) (by omega)).mp h45
          have et : t = sNt (gS G) := by omega
          subst et
          refine J_iload_n dX9_deadlocked_107 rfl rfl ?_
          exact J_ireturn dX9_deadlocked_108 rfl rfl (GM_of (c := 0) (v := nI (stN (gS G))) (G' := G) (th := 0) (rfl) (fun _ => rfl) hFr (by decide) ⟨va_up x 0 (nI 0), _, _, _, _, _, _, _, ⟨_, _, _, mO, mS, mF, mK, hfit⟩, ⟨m2, m3, m4, m5, m6, m7, m8⟩, (up_s _ _ _), ⟨((up_n _ _ (by decide)).trans x6), ((up_n _ _ (by decide)).trans x7), ((up_n _ _ (by decide)).trans x13), ((up_n _ _ (by decide)).trans x14), ((up_n _ _ (by decide)).trans x15), ((up_n _ _ (by decide)).trans x16)⟩, hRd⟩)
        · skip
          have h45 := mt (nI_leI (by omega) (by omega)).mpr h45
          refine J_aload_n dX9_deadlocked_48 rfl rfl ?_
          refine J_getfield dX9_deadlocked_49 fX9_37 mO rfl ?_
          refine J_iload_n dX9_deadlocked_52 rfl rfl ?_
          refine K_iald (v := oI (bk (gS G) t)) dX9_deadlocked_53 mK (by omega) (by decide) (hrow t (by omega)) ?_
          refine J_istore_n dX9_deadlocked_54 rfl (by decide) rfl ?_
          refine J_iconst (v := nI 0) dX9_deadlocked_55 (by decide) ?_
          refine J_istore dX9_deadlocked_56 (by decide) rfl ?_
          exact follow (by omega) 8 0 (bk (gS G) t) (bk_b hwf) (by omega) (by omega) (by rfl) (fun j h1 h2 => by omega)
    refine J_iconst (v := nI 0) dX9_deadlocked_36 (by decide) ?_
    refine J_istore_n dX9_deadlocked_37 rfl (by decide) rfl ?_
    exact loopt (sNt (gS G) + 1) 0 _ _ (by omega) (by omega)
  have loop1 : ∀ n k h1 g1 w1, sNt (gS G) < n + k → k ≤ sNt (gS G) → w1.1 m = mCell m (va_up x 0 (nI 0)) → w1.1 (m + 1) = .inl (0, 116, .inl f) → w1.1 (m + 2) = .inl (0, 116, .inl f2) → w1.1 (m + 3) = .inl (0, 116, .inl f3) → w1.1 (m + 4) = .inl (0, 928, .inl f4) → w1.1 (m + 5) = .inl (0, 116, .inl f5) → w1.1 (m + 6) = .inl (0, 60, .inl f6) → w1.1 (m + 7) = .inl (0, 180, .inl f7) → w1.1 (m + 8) = .inl (0, 40, .inl f8) → w1.1 (m + 9) = .inl (0, 14, .inl g1) → w1.1 (m + 10) = .inl (0, 14, .inl h1) → Fr w w1 m (m + 11) → (∀ t, t < k → h1 t = oI (bk (gS G) t)) → J 6 mX9_deadlocked 9 [some (.ref m), some (.int (nI 0)), some (.int (nI k)), none, none] [] w1 0 0 (GM w m [] (gQ G (ok0 (nI (stN (gS G)))))) := by
    intro n
    induction n with
    | zero => intros; omega
    | succ n ih =>
      intro k h1 g1 w1 q1 q2 mO mS m2 m3 m4 m5 m6 m7 m8 mF mK hFr hrow
      have mO : w1.1 m = .inr (9, [.int (nI 0), .ref (m + 1), .ref (m + 2), .ref (m + 3), .ref (m + 4), .ref (m + 5), .int (x 6), .int (x 7), .ref (m + 6), .ref (m + 7), .ref (m + 8), .ref (m + 9), .ref (m + 10), .int (x 13), .int (x 14), .int (x 15), .int (x 16), .int (x 17), .int (x 18), .int (x 19), .int (x 20), .int (x 21)]) := mO
      refine J_iload_n dX9_deadlocked_9 rfl rfl ?_
      refine J_aload_n dX9_deadlocked_10 rfl rfl ?_
      refine J_getfield dX9_deadlocked_11 fX9_7 mO rfl ?_
      refine J_iconst (v := nI 1) dX9_deadlocked_14 (by decide) ?_
      refine K_iald (v := nI (sNt (gS G))) dX9_deadlocked_15 mS (by omega) (by decide) hfit.1.2.1 ?_
      refine J_icmp_ge (tgt := 36) dX9_deadlocked_16 (by decide) (fun h16 => ?_) (fun h16 => ?_)
      · skip
        have h16 := (nI_leI (by omega) (by omega)).mp h16
        have ek : k = sNt (gS G) := by omega
        exact second _ _ _ _ _ _ mO mS m2 m3 m4 m5 m6 m7 m8 mF mK hFr (fun t ht => hrow t (by omega))
      · skip
        have h16 := mt (nI_leI (by omega) (by omega)).mpr h16
        refine J_aload_n dX9_deadlocked_19 rfl rfl ?_
        refine J_getfield dX9_deadlocked_20 fX9_37 mO rfl ?_
        refine J_iload_n dX9_deadlocked_23 rfl rfl ?_
        refine J_aload_n dX9_deadlocked_24 rfl rfl ?_
        refine J_iload_n dX9_deadlocked_25 rfl rfl ?_
        refine K_callVp dX9_deadlocked_26 YX9_blocker kX9_181 (rc_of mO rfl) (c_X9_blocker (x := va_up x 0 (nI 0)) ⟨_, _, _, mO, mS, mF, mK, hfit⟩ (show k < sNt (gS G) by omega)) rfl rfl (Nat.le_of_ble_eq_true rfl) (by decide) (fun v26 w26 q26 => ?_)
        obtain ⟨rfl, hF26, hA26⟩ := q26
        have m2 := (hF26.1 _ (by omega)).trans m2
        have m3 := (hF26.1 _ (by omega)).trans m3
        have m4 := (hF26.1 _ (by omega)).trans m4
        have m5 := (hF26.1 _ (by omega)).trans m5
        have m6 := (hF26.1 _ (by omega)).trans m6
        have m7 := (hF26.1 _ (by omega)).trans m7
        have m8 := (hF26.1 _ (by omega)).trans m8
        have mK := (hF26.1 _ (by omega)).trans mK
        have mO := (hF26.1 _ (by omega)).trans mO
        have mS := (hF26.1 _ (by omega)).trans mS
        obtain ⟨-, g26, -, -, -, mF, -, -⟩ := hA26
        refine K_iast dX9_deadlocked_29 mK (by omega) (by decide) (fun w1 u1 => ?_)
        have m2 := (u1.2.1 _ (by omega)).trans m2
        have m3 := (u1.2.1 _ (by omega)).trans m3
        have m4 := (u1.2.1 _ (by omega)).trans m4
        have m5 := (u1.2.1 _ (by omega)).trans m5
        have m6 := (u1.2.1 _ (by omega)).trans m6
        have m7 := (u1.2.1 _ (by omega)).trans m7
        have m8 := (u1.2.1 _ (by omega)).trans m8
        have mF := (u1.2.1 _ (by omega)).trans mF
        have mK := u1.1
        have mO := (u1.2.1 _ (by omega)).trans mO
        have mS := (u1.2.1 _ (by omega)).trans mS
        refine J_iinc (v := nI (k + 1)) dX9_deadlocked_30 rfl (nI_succ _).symm (by decide) rfl ?_
        refine J_goto (tgt := 9) dX9_deadlocked_33 (by decide) ?_
        exact ih (k + 1) _ _ _ (by omega) (by omega) mO mS m2 m3 m4 m5 m6 m7 m8 mF mK ((hFr.tr hF26 (by omega) (by omega)).up u1 (by omega) (by omega)) (fun t ht => by
          by_cases e : t = k
          · subst e; rw [up_s]
          · rw [up_n _ _ e]; exact hrow t (by omega))
  refine J_aload_n dX9_deadlocked_0 rfl rfl ?_
  refine J_iconst (v := nI 0) dX9_deadlocked_1 (by decide) ?_
  refine K_putI dX9_deadlocked_2 fX9_47 (Or.inl rfl) mO (Nat.le_of_ble_eq_true rfl) (fun w1 u1 => ?_)
  have m2 := (u1.2.1 _ (by omega)).trans m2
  have m3 := (u1.2.1 _ (by omega)).trans m3
  have m4 := (u1.2.1 _ (by omega)).trans m4
  have m5 := (u1.2.1 _ (by omega)).trans m5
  have m6 := (u1.2.1 _ (by omega)).trans m6
  have m7 := (u1.2.1 _ (by omega)).trans m7
  have m8 := (u1.2.1 _ (by omega)).trans m8
  have mF := (u1.2.1 _ (by omega)).trans mF
  have mK := (u1.2.1 _ (by omega)).trans mK
  have mO := u1.1
  have mS := (u1.2.1 _ (by omega)).trans mS
  have mO : w1.1 m = .inr (9, [.int (nI 0), .ref (m + 1), .ref (m + 2), .ref (m + 3), .ref (m + 4), .ref (m + 5), .int (x 6), .int (x 7), .ref (m + 6), .ref (m + 7), .ref (m + 8), .ref (m + 9), .ref (m + 10), .int (x 13), .int (x 14), .int (x 15), .int (x 16), .int (x 17), .int (x 18), .int (x 19), .int (x 20), .int (x 21)]) := mO
  refine J_iconst (v := nI 0) dX9_deadlocked_5 (by decide) ?_
  refine J_istore_n dX9_deadlocked_6 rfl (by decide) rfl ?_
  refine J_iconst (v := nI 0) dX9_deadlocked_7 (by decide) ?_
  refine J_istore_n dX9_deadlocked_8 rfl (by decide) rfl ?_
  exact loop1 (sNt (gS G) + 1) 0 _ _ _ (by omega) (by omega) mO mS m2 m3 m4 m5 m6 m7 m8 mF mK ((Fr.rf w m (m + 11)).up u1 (by omega) (by omega)) (fun t ht => by omega)

theorem c_X9_deadlockedByTable {w : Wd} {m : Nat} {G : Gme} {th : Nat} (hM : RepM w m G th)  : MC 7 mX9_deadlockedByTable 0 0 [.ref m] w (GM w m [] (gQ G (ok0 (nI (stN (gS G)))))) := by
  obtain ⟨x, f2, f3, f4, f5, f6, f7, f8, hA, ⟨m2, m3, m4, m5, m6, m7, m8⟩, hx0, hRx, hRd⟩ := id hM
  obtain ⟨x6, x7, x13, x14, x15, x16⟩ := id hRx
  obtain ⟨hV, hP, hT, hO, ⟨hb8, hb60, hb14⟩, hE, hF⟩ := id hRd
  obtain ⟨f, g, h, mO, mS, mF, mK, hfit⟩ := id hA
  have hwf := hfit.2.2.2.2
  have hnb := hwf.nb
  have hnt := hwf.nt
  refine MC_j pnX9 rfl rfl rfl (Or.inr (fun E w h => RP_no E w h)) ?_
  show J 7 mX9_deadlockedByTable 0 [some (.ref m)] [] w 0 0 _
  refine J_aload_n dX9_deadlockedByTable_0 rfl rfl ?_
  refine K_callVp dX9_deadlockedByTable_1 YX9_deadlocked kX9_184 (rc_of mO rfl) (c_X9_deadlocked hM) rfl rfl (Nat.le_of_ble_eq_true rfl) (by decide) (fun v1 w1 q1 => ?_)
  obtain ⟨⟨yv, rfl, hy⟩, hF, hR⟩ := q1
  exact J_ireturn dX9_deadlockedByTable_4 rfl rfl (RP_i ⟨⟨yv, rfl, hy⟩, hF, hR⟩)

end JMASK2

/-! THE MODEL: commands done; its making -/
section JMEXEC
theorem exec_err {G : Gme} {q : Nat} (h : (pAll (gT G) (gN G) 61 0).2 = some q) : gExec G = (2, 0, (G.1, G.2.1, gO G, (gT G, 0), (some q, gF G))) := by unfold gExec; rw [h]
theorem exec_bad {G : Gme} {k : Nat} {S : St} (h : (pAll (gT G) (gN G) 61 0).2 = none) (h2 : runC (pAll (gT G) (gN G) 61 0).1 0 (gS G) = (some k, S)) : gExec G = (4, 0, (G.1, G.2.1, gO G, (gT G, 0), (gE G, some k))) := by unfold gExec; rw [h]; simp only; rw [h2]
theorem exec_ok {G : Gme} {S : St} (h : (pAll (gT G) (gN G) 61 0).2 = none) (h2 : runC (pAll (gT G) (gN G) 61 0).1 0 (gS G) = (none, S)) : gExec G = (0, nI (pAll (gT G) (gN G) 61 0).1.length, gPush (gN0 G) S) := by unfold gExec; rw [h]; simp only; rw [h2]
theorem rdC_e {t : Nat → Nat} {n p q : Nat} (h : pOne t n p = (none, q)) : rdC t n p = .inl q := by unfold rdC; rw [h]
theorem rdC_l {t : Nat → Nat} {n p q : Nat} {cm : Nat × List Nat} (h : pOne t n p = (some cm, q)) (h2 : n ≤ q) : rdC t n p = .inr (cm, q, true) := by unfold rdC; rw [h]; simp only; rw [if_pos h2]
theorem rdC_c {t : Nat → Nat} {n p q : Nat} {cm : Nat × List Nat} (h : pOne t n p = (some cm, q)) (h2 : q < n ∧ t q = 59) : rdC t n p = .inr (cm, q + 1, false) := by unfold rdC; rw [h]; simp only; rw [if_neg (by omega), if_pos h2.2]
theorem rdC_x {t : Nat → Nat} {n p q : Nat} {cm : Nat × List Nat} (h : pOne t n p = (some cm, q)) (h2 : q < n) (h3 : ¬ t q = 59) : rdC t n p = .inl q := by unfold rdC; rw [h]; simp only; rw [if_neg (by omega), if_neg h3]
theorem runC_y {c : Nat × List Nat} {cs : List (Nat × List Nat)} {k : Nat} {S : St} (h : (doC S c).1 = 0) : runC (c :: cs) k S = runC cs (k + 1) (doC S c).2.2 := by show (if _ then _ else _) = _; rw [if_pos h]
theorem runC_n {c : Nat × List Nat} {cs : List (Nat × List Nat)} {k : Nat} {S : St} (h : ¬ (doC S c).1 = 0) : runC (c :: cs) k S = (some k, S) := by show (if _ then _ else _) = _; rw [if_neg h]
theorem dropD {α : Type} {l : List α} {i : Nat} (h : i < l.length) (z : α) : l.drop i = l.getD i z :: l.drop (i + 1) := by
  rw [List.drop_eq_getElem_cons h]
  simp [List.getD, h]
def zC : Nat × List Nat := (0, [])
/-- the commands that were told -/
def CTs (f7 : Nat → Int32) (l : List (Nat × List Nat)) : Prop := ∀ j, j < l.length → CT f7 j (l.getD j zC) ∧ (l.getD j zC).1 < 9
theorem CTs_app {f7 : Nat → Int32} {l : List (Nat × List Nat)} {cm : Nat × List Nat} (h : CTs f7 l) (hc : CT f7 l.length cm) (h9 : cm.1 < 9) : CTs f7 (l ++ [cm]) := by
  intro j hj
  rw [List.length_append] at hj
  have hj : j < l.length + 1 := hj
  by_cases e : j = l.length
  · subst e
    rw [show (l ++ [cm]).getD l.length zC = cm from by simp [List.getD]]
    exact ⟨hc, h9⟩
  · rw [show (l ++ [cm]).getD j zC = l.getD j zC from by simp [List.getD, List.getElem?_append_left (show j < l.length by omega)]]
    exact h j (by omega)
theorem CTs_kept {f7 f7' : Nat → Int32} {l : List (Nat × List Nat)} {c : Nat} (h : CTs f7 l) (k : TK f7 f7' c) (hc : l.length ≤ c) : CTs f7' l := fun j hj => by
  obtain ⟨⟨h1, h2, h3⟩, h4⟩ := h j hj
  exact ⟨⟨(k _ (by omega)).trans h1, (k _ (by omega)).trans h2, fun z => (k _ (by omega)).trans (h3 z)⟩, h4⟩
theorem c_X9_execute {w : Wd} {m : Nat} {G : Gme} {th : Nat} (hM : RepM w m G th) : MC 15 mX9_execute 0 0 [.ref m] w (GM w m [2, 4] (gExec G)) := by
  obtain ⟨x, f2, f3, f4, f5, f6, f7, f8, hA, ⟨m2, m3, m4, m5, m6, m7, m8⟩, hx0, hRx, hRd⟩ := id hM
  obtain ⟨x6, x7, x13, x14, x15, x16⟩ := id hRx
  obtain ⟨hV, hP, hT, hO, ⟨hb8, hb60, hb14⟩, hE, hF⟩ := id hRd
  obtain ⟨f, g, h, mO, mS, mF, mK, hfit⟩ := id hA
  have hwf := hfit.2.2.2.2
  have hnb := hwf.nb
  have hnt := hwf.nt
  refine MC_j pnX9 rfl rfl rfl (Or.inr (fun E w h => RP_no E w h)) ?_
  show J 15 mX9_execute 0 [some (.ref m), none, none] [] w 0 0 _
  have fail : ∀ k Sk S9 xk w1, (pAll (gT G) (gN G) 61 0).2 = none → runC (pAll (gT G) (gN G) 61 0).1 0 (gS G) = (some k, S9) → k < 60 → RepI w1 m xk (gN0 G) Sk → Fr w w1 m (m + 11) → ∀ o2, J 15 mX9_execute 123 [some (.ref m), some (.int (nI k)), o2] [] w1 0 0 (GM w m [2, 4] (gExec G)) := by
    intro k Sk S9 xk w0 hpe hbad hk60 hI hFr0 o2
    obtain ⟨f2, f3, f4, f5, f6, f7k, f8, hA, ⟨m2, m3, m4, m5, m6, m7k, m8⟩, hK, hx0, hRx, hRd⟩ := id hI
    obtain ⟨x6, x7, x13, x14, x15, x16⟩ := id hRx
    obtain ⟨hV, hP, hT, hO, ⟨hb8, hb60, hb14⟩, hE, hF⟩ := id hRd
    obtain ⟨f, g, h, mO, mS, mF, mK, hfk⟩ := id hA
    have next : ∀ fd w1, w1.1 m = mCell m xk → w1.1 (m + 1) = .inl (0, 116, .inl fd) → w1.1 (m + 2) = .inl (0, 116, .inl f2) → w1.1 (m + 3) = .inl (0, 116, .inl f3) → w1.1 (m + 4) = .inl (0, 928, .inl f4) → w1.1 (m + 5) = .inl (0, 116, .inl f5) → w1.1 (m + 6) = .inl (0, 60, .inl f6) → w1.1 (m + 7) = .inl (0, 180, .inl f7k) → w1.1 (m + 8) = .inl (0, 40, .inl f8) → w1.1 (m + 9) = .inl (0, 14, .inl g) → w1.1 (m + 10) = .inl (0, 14, .inl h) → Fr w w1 m (m + 11) → (∀ i, i < 116 → fd i = f2 i) → ∀ o2, J 15 mX9_execute 149 [some (.ref m), some (.int (nI k)), o2] [] w1 0 0 (GM w m [2, 4] (gExec G)) := by
      intro fd w1 mO mS m2 m3 m4 m5 m6 m7 m8 mF mK hFr hrow o2
      refine J_aload_n dX9_execute_149 rfl rfl ?_
      refine J_iload_n dX9_execute_150 rfl rfl ?_
      refine K_putI dX9_execute_151 fX9_44 (Or.inl rfl) mO (Nat.le_of_ble_eq_true rfl) (fun w1 u1 => ?_)
      have m2 := (u1.2.1 _ (by omega)).trans m2
      have m3 := (u1.2.1 _ (by omega)).trans m3
      have m4 := (u1.2.1 _ (by omega)).trans m4
      have m5 := (u1.2.1 _ (by omega)).trans m5
      have m6 := (u1.2.1 _ (by omega)).trans m6
      have m7 := (u1.2.1 _ (by omega)).trans m7
      have m8 := (u1.2.1 _ (by omega)).trans m8
      have mF := (u1.2.1 _ (by omega)).trans mF
      have mK := (u1.2.1 _ (by omega)).trans mK
      have mO := u1.1
      have mS := (u1.2.1 _ (by omega)).trans mS
      have mO : w1.1 m = .inr (9, [.int (xk 0), .ref (m + 1), .ref (m + 2), .ref (m + 3), .ref (m + 4), .ref (m + 5), .int (xk 6), .int (xk 7), .ref (m + 6), .ref (m + 7), .ref (m + 8), .ref (m + 9), .ref (m + 10), .int (xk 13), .int (xk 14), .int (xk 15), .int (nI k), .int (xk 17), .int (xk 18), .int (xk 19), .int (xk 20), .int (xk 21)]) := mO
      refine J_aload_n dX9_execute_154 rfl rfl ?_
      refine J_iconst (v := nI 2) dX9_execute_155 (by decide) ?_
      refine K_callVp dX9_execute_156 YX9_fails kX9_60 (rc_of mO rfl) (c_X9_fails (x := va_up xk 16 (nI k)) mO _) rfl rfl (Nat.le_of_ble_eq_true rfl) (by decide) (fun v156 w156 q156 => ?_)
      obtain ⟨rfl, u156⟩ := q156
      exact J_ireturn dX9_execute_159 rfl rfl (GM_of (c := 4) (v := 0) (th := 2) (exec_bad hpe hbad) (fun z => absurd z (by decide)) ((hFr.up u1 (by omega) (by omega)).up u156 (by omega) (by omega)) (by decide) ⟨va_up (va_up xk 16 (nI k)) 0 (nI 2), f2, f3, f4, f5, f6, f7k, f8, ⟨fd, g, h, u156.1, (u156.2.1 _ (by omega)).trans mS, (u156.2.1 _ (by omega)).trans mF, (u156.2.1 _ (by omega)).trans mK, fit_kept hK hrow⟩, ⟨(u156.2.1 _ (by omega)).trans m2, (u156.2.1 _ (by omega)).trans m3, (u156.2.1 _ (by omega)).trans m4, (u156.2.1 _ (by omega)).trans m5, (u156.2.1 _ (by omega)).trans m6, (u156.2.1 _ (by omega)).trans m7, (u156.2.1 _ (by omega)).trans m8⟩, up_s _ _ _, ⟨(up_n _ _ (by decide)).trans ((up_n _ _ (by decide)).trans x6), (up_n _ _ (by decide)).trans ((up_n _ _ (by decide)).trans x7), (up_n _ _ (by decide)).trans ((up_n _ _ (by decide)).trans x13), (up_n _ _ (by decide)).trans ((up_n _ _ (by decide)).trans x14), (up_n _ _ (by decide)).trans ((up_n _ _ (by decide)).trans x15), (up_n _ _ (by decide)).trans (up_s _ _ _)⟩, ⟨hV, hP, (fun j hj => absurd hj (Nat.not_lt_zero j)), hO, ⟨hb8, Nat.zero_le _, hb14⟩, hE, fun z hz => by cases hz; omega⟩⟩)
    have copy : ∀ n j fd w1, 116 < n + j → j ≤ 116 → w1.1 m = mCell m xk → w1.1 (m + 1) = .inl (0, 116, .inl fd) → w1.1 (m + 2) = .inl (0, 116, .inl f2) → w1.1 (m + 3) = .inl (0, 116, .inl f3) → w1.1 (m + 4) = .inl (0, 928, .inl f4) → w1.1 (m + 5) = .inl (0, 116, .inl f5) → w1.1 (m + 6) = .inl (0, 60, .inl f6) → w1.1 (m + 7) = .inl (0, 180, .inl f7k) → w1.1 (m + 8) = .inl (0, 40, .inl f8) → w1.1 (m + 9) = .inl (0, 14, .inl g) → w1.1 (m + 10) = .inl (0, 14, .inl h) → Fr w w1 m (m + 11) → (∀ i, i < j → fd i = f2 i) → J 15 mX9_execute 125 [some (.ref m), some (.int (nI k)), some (.int (nI j))] [] w1 0 0 (GM w m [2, 4] (gExec G)) := by
      intro n
      induction n with
      | zero => intros; omega
      | succ n ih =>
        intro j fd w1 q1 q2 mO mS m2 m3 m4 m5 m6 m7 m8 mF mK hFr hrow
        refine J_iload_n dX9_execute_125 rfl rfl ?_
        refine J_bipush (v := nI 116) dX9_execute_126 (by decide) ?_
        refine J_icmp_ge (tgt := 149) dX9_execute_128 (by decide) (fun h128 => ?_) (fun h128 => ?_)
        · skip
          have h128 := (nI_leI (by omega) (by omega)).mp h128
          have ek : j = 116 := by omega
          exact next _ _ mO mS m2 m3 m4 m5 m6 m7 m8 mF mK hFr (fun i hi => hrow i (by omega)) _
        · skip
          have h128 := mt (nI_leI (by omega) (by omega)).mpr h128
          refine J_aload_n dX9_execute_131 rfl rfl ?_
          refine J_getfield dX9_execute_132 fX9_7 mO rfl ?_
          refine J_iload_n dX9_execute_135 rfl rfl ?_
          refine J_aload_n dX9_execute_136 rfl rfl ?_
          refine J_getfield dX9_execute_137 fX9_13 mO rfl ?_
          refine J_iload_n dX9_execute_140 rfl rfl ?_
          refine K_iald (v := f2 j) dX9_execute_141 m2 (by omega) (by decide) rfl ?_
          refine K_iast dX9_execute_142 mS (by omega) (by decide) (fun w1 u1 => ?_)
          have m2 := (u1.2.1 _ (by omega)).trans m2
          have m3 := (u1.2.1 _ (by omega)).trans m3
          have m4 := (u1.2.1 _ (by omega)).trans m4
          have m5 := (u1.2.1 _ (by omega)).trans m5
          have m6 := (u1.2.1 _ (by omega)).trans m6
          have m7 := (u1.2.1 _ (by omega)).trans m7
          have m8 := (u1.2.1 _ (by omega)).trans m8
          have mF := (u1.2.1 _ (by omega)).trans mF
          have mK := (u1.2.1 _ (by omega)).trans mK
          have mO := (u1.2.1 _ (by omega)).trans mO
          have mS := u1.1
          refine J_iinc (v := nI (j + 1)) dX9_execute_143 rfl (nI_succ _).symm (by decide) rfl ?_
          refine J_goto (tgt := 125) dX9_execute_146 (by decide) ?_
          exact ih (j + 1) _ _ (by omega) (by omega) mO mS m2 m3 m4 m5 m6 m7 m8 mF mK (hFr.up u1 (by omega) (by omega)) (fun i hi => by
            by_cases e : i = j
            · subst e; rw [up_s]
            · rw [up_n _ _ e]; exact hrow i (by omega))
    refine J_iconst (v := nI 0) dX9_execute_123 (by decide) ?_
    refine J_istore_n dX9_execute_124 rfl (by decide) rfl ?_
    exact copy 117 0 f w0 (by omega) (by omega) mO mS m2 m3 m4 m5 m6 m7k m8 mF mK hFr0 (fun i hi => by omega)
  have dos : ∀ f7, (pAll (gT G) (gN G) 61 0).2 = none → CTs f7 (pAll (gT G) (gN G) 61 0).1 → (pAll (gT G) (gN G) 61 0).1.length < 20 → ∀ n k Sk xk w1 o2, (pAll (gT G) (gN G) 61 0).1.length < n + k → k ≤ (pAll (gT G) (gN G) 61 0).1.length → runC (pAll (gT G) (gN G) 61 0).1 0 (gS G) = runC ((pAll (gT G) (gN G) 61 0).1.drop k) k Sk → RepI w1 m xk (gN0 G) Sk → w1.1 (m + 7) = .inl (0, 180, .inl f7) → xk 20 = nI (pAll (gT G) (gN G) 61 0).1.length → Fr w w1 m (m + 11) → J 15 mX9_execute 104 [some (.ref m), some (.int (nI k)), o2] [] w1 0 0 (GM w m [2, 4] (gExec G)) := by
    intro f7 hpe hCs hL20 n
    induction n with
    | zero => intros; omega
    | succ n ih =>
      intro k Sk xk w1 o2 q1 q2 hrun hI m7 hc20 hFr
      obtain ⟨f2, f3, f4, f5, f6, f7k, f8, hA, ⟨m2, m3, m4, m5, m6, m7k, m8⟩, hK, hx0, hRx, hRd⟩ := id hI
      obtain ⟨x6, x7, x13, x14, x15, x16⟩ := id hRx
      obtain ⟨hV, hP, hT, hO, ⟨hb8, hb60, hb14⟩, hE, hF⟩ := id hRd
      obtain ⟨f, g, h, mO, mS, mF, mK, hfk⟩ := id hA
      refine J_iload_n dX9_execute_104 rfl rfl ?_
      refine J_aload_n dX9_execute_105 rfl rfl ?_
      refine J_getfield dX9_execute_106 fX9_224 mO rfl ?_
      rw [hc20]
      refine J_icmp_ge (tgt := 166) dX9_execute_109 (by decide) (fun h109 => ?_) (fun h109 => ?_)
      · skip
        have h109 := (nI_leI (by omega) (by omega)).mp h109
        have ek : k = (pAll (gT G) (gN G) 61 0).1.length := by omega
        refine J_aload_n dX9_execute_166 rfl rfl ?_
        refine J_aload_n dX9_execute_167 rfl rfl ?_
        refine J_getfield dX9_execute_168 fX9_224 mO rfl ?_
        rw [hc20]
        refine K_callVp dX9_execute_171 YX9_changed kX9_56 (rc_of mO rfl) (c_X9_changed mO m2 m4 x6 hb8 hP hK _) rfl rfl (Nat.le_of_ble_eq_true rfl) (by decide) (fun v171 w171 q171 => ?_)
        obtain ⟨rfl, hX, hX2, mO9, f4', m4', hP'⟩ := q171
        have hFr9 : Fr w1 w171 m (m + 11) := ⟨fun b hb => hX b (by omega) (by omega), hX2⟩
        rw [ek, List.drop_eq_nil_of_le (Nat.le_refl _)] at hrun
        exact J_ireturn dX9_execute_174 rfl rfl (GM_of (c := 0) (th := 0) (exec_ok hpe hrun) (fun _ => rfl) (hFr.tr hFr9 (Nat.le_refl _) (Nat.le_refl _)) (by decide) ⟨_, f2, f3, f4', f5, f6, f7k, f8, ⟨f, g, h, mO9, (hX _ (by omega) (by omega)).trans mS, (hX _ (by omega) (by omega)).trans mF, (hX _ (by omega) (by omega)).trans mK, hfk⟩, ⟨(hX _ (by omega) (by omega)).trans m2, (hX _ (by omega) (by omega)).trans m3, m4', (hX _ (by omega) (by omega)).trans m5, (hX _ (by omega) (by omega)).trans m6, (hX _ (by omega) (by omega)).trans m7k, (hX _ (by omega) (by omega)).trans m8⟩, (up_n _ _ (by decide)).trans hx0, ⟨up_s _ _ _, (up_n _ _ (by decide)).trans x7, (up_n _ _ (by decide)).trans x13, (up_n _ _ (by decide)).trans x14, (up_n _ _ (by decide)).trans x15, (up_n _ _ (by decide)).trans x16⟩, ⟨hV, hP', hT, hO, ⟨(pushN_le hb8).1, hb60, hb14⟩, hE, hF⟩⟩)
      · skip
        have h109 := mt (nI_leI (by omega) (by omega)).mpr h109
        obtain ⟨hCT, h9⟩ := hCs k (by omega)
        refine J_aload_n dX9_execute_112 rfl rfl ?_
        refine J_iload_n dX9_execute_113 rfl rfl ?_
        refine K_callVp dX9_execute_114 YX9_does kX9_272 (rc_of mO rfl) (c_X9_does hA m7 (show k < 59 by omega) h9 hCT) rfl rfl (Nat.le_of_ble_eq_true rfl) (by decide) (fun v114 w114 q114 => ?_)
        obtain ⟨y, rfl, hy31, hy0, hF114, x1, hA1, hx1⟩ := q114
        have hI1 := hI.fa hF114 hA1 hx1
        refine J_if_ne (tgt := 123) dX9_execute_117 (by decide) (fun h117 => ?_) (fun h117 => ?_)
        · skip
          have h117 := mt (nI_eq (b := 0) (by omega) (by omega)).mpr h117
          have hR : (doC Sk ((pAll (gT G) (gN G) 61 0).1.getD k zC)).1 ≠ 0 := mt hy0.mpr h117
          rw [dropD (show k < (pAll (gT G) (gN G) 61 0).1.length by omega) zC, runC_n hR] at hrun
          exact fail k _ Sk x1 _ hpe hrun (by omega) hI1 (hFr.tr hF114.fr (by omega) (by omega)) _
        · skip
          have h117 := (nI_eq (b := 0) (by omega) (by omega)).mp h117
          have hR : (doC Sk ((pAll (gT G) (gN G) 61 0).1.getD k zC)).1 = 0 := hy0.mp h117
          refine J_goto (tgt := 160) dX9_execute_120 (by decide) ?_
          refine J_iinc (v := nI (k + 1)) dX9_execute_160 rfl (nI_succ _).symm (by decide) rfl ?_
          refine J_goto (tgt := 104) dX9_execute_163 (by decide) ?_
          rw [dropD (show k < (pAll (gT G) (gN G) 61 0).1.length by omega) zC, runC_y hR] at hrun
          exact ih (k + 1) _ x1 _ _ (by omega) (by omega) hrun hI1 ((hF114.1 _ (by omega)).trans m7) ((hx1 _ (by decide)).trans hc20) (hFr.tr hF114.fr (by omega) (by omega))
  have err : ∀ q f2 f3 f4 f5 f6 f7 f8 xk w1, (pAll (gT G) (gN G) 61 0).2 = some q → q < 1000 → xk 18 = nI q → MA w1 m xk (gS G) → RMc w1 m f2 f3 f4 f5 f6 f7 f8 → FitM f2 (gS G) → TXT f6 (gT G) (gN G) → xk 0 = nI 0 → RMx xk (gN0 G) → RMd f3 f4 f6 f8 (gN0 G) → Fr w w1 m (m + 11) → J 15 mX9_execute 88 [some (.ref m), none, none] [] w1 0 0 (GM w m [2, 4] (gExec G)) := by
    intro q f2 f3 f4 f5 f6 f7 f8 xk w1 hpe hq1 h18 hA hCc hK hTx hx0 hRx hRd hFr
    obtain ⟨f, g, h, mO, mS, mF, mK, hfk⟩ := id hA
    obtain ⟨m2, m3, m4, m5, m6, m7, m8⟩ := id hCc
    obtain ⟨x6, x7, x13, x14, x15, x16⟩ := id hRx
    obtain ⟨hV, hP, hT0, hO, ⟨hb8, hb60, hb14⟩, hE, hF⟩ := id hRd
    refine J_aload_n dX9_execute_88 rfl rfl ?_
    refine J_aload_n dX9_execute_89 rfl rfl ?_
    refine J_getfield dX9_execute_90 fX9_202 mO rfl ?_
    rw [h18]
    refine K_putI dX9_execute_93 fX9_40 (Or.inl rfl) mO (Nat.le_of_ble_eq_true rfl) (fun w1 u1 => ?_)
    have m2 := (u1.2.1 _ (by omega)).trans m2
    have m3 := (u1.2.1 _ (by omega)).trans m3
    have m4 := (u1.2.1 _ (by omega)).trans m4
    have m5 := (u1.2.1 _ (by omega)).trans m5
    have m6 := (u1.2.1 _ (by omega)).trans m6
    have m7 := (u1.2.1 _ (by omega)).trans m7
    have m8 := (u1.2.1 _ (by omega)).trans m8
    have mF := (u1.2.1 _ (by omega)).trans mF
    have mK := (u1.2.1 _ (by omega)).trans mK
    have mO := u1.1
    have mS := (u1.2.1 _ (by omega)).trans mS
    have mO : w1.1 m = .inr (9, [.int (xk 0), .ref (m + 1), .ref (m + 2), .ref (m + 3), .ref (m + 4), .ref (m + 5), .int (xk 6), .int (xk 7), .ref (m + 6), .ref (m + 7), .ref (m + 8), .ref (m + 9), .ref (m + 10), .int (xk 13), .int (xk 14), .int (nI q), .int (xk 16), .int (xk 17), .int (xk 18), .int (xk 19), .int (xk 20), .int (xk 21)]) := mO
    refine J_aload_n dX9_execute_96 rfl rfl ?_
    refine J_iconst (v := nI 1) dX9_execute_97 (by decide) ?_
    refine K_callVp dX9_execute_98 YX9_fails kX9_60 (rc_of mO rfl) (c_X9_fails (x := va_up xk 15 (nI q)) mO _) rfl rfl (Nat.le_of_ble_eq_true rfl) (by decide) (fun v98 w98 q98 => ?_)
    obtain ⟨rfl, u98⟩ := q98
    exact J_ireturn dX9_execute_101 rfl rfl (GM_of (c := 2) (v := 0) (th := 1) (exec_err hpe) (fun z => absurd z (by decide)) ((hFr.up u1 (by omega) (by omega)).up u98 (by omega) (by omega)) (by decide) ⟨va_up (va_up xk 15 (nI q)) 0 (nI 1), f2, f3, f4, f5, f6, f7, f8, ⟨f, g, h, u98.1, (u98.2.1 _ (by omega)).trans mS, (u98.2.1 _ (by omega)).trans mF, (u98.2.1 _ (by omega)).trans mK, hfk⟩, ⟨(u98.2.1 _ (by omega)).trans m2, (u98.2.1 _ (by omega)).trans m3, (u98.2.1 _ (by omega)).trans m4, (u98.2.1 _ (by omega)).trans m5, (u98.2.1 _ (by omega)).trans m6, (u98.2.1 _ (by omega)).trans m7, (u98.2.1 _ (by omega)).trans m8⟩, up_s _ _ _, ⟨(up_n _ _ (by decide)).trans ((up_n _ _ (by decide)).trans x6), (up_n _ _ (by decide)).trans ((up_n _ _ (by decide)).trans x7), (up_n _ _ (by decide)).trans ((up_n _ _ (by decide)).trans x13), (up_n _ _ (by decide)).trans ((up_n _ _ (by decide)).trans x14), (up_n _ _ (by decide)).trans (up_s _ _ _), (up_n _ _ (by decide)).trans ((up_n _ _ (by decide)).trans x16)⟩, ⟨hV, hP, (fun j hj => absurd hj (Nat.not_lt_zero j)), hO, ⟨hb8, Nat.zero_le _, hb14⟩, (fun z hz => by cases hz; omega), hF⟩⟩)
  have read : ∀ f2 f3 f4 f5 f6 f8 r pre c p f7 xk w1 f9, gN G < r + p → c = pre.length + 1 → f9 + pre.length = 60 → (pAll (gT G) (gN G) 61 0) = (pre ++ (pAll (gT G) (gN G) (f9 + 1) p).1, (pAll (gT G) (gN G) (f9 + 1) p).2) → 6 * pre.length ≤ p → p ≤ gN G → CTs f7 pre → (∀ cm, (pOne (gT G) (gN G) p).1 = some cm → CT f7 pre.length cm) → PX xk (pOne (gT G) (gN G) p).2 (gN G) c (pOne (gT G) (gN G) p).1.isNone → MA w1 m xk (gS G) → RMc w1 m f2 f3 f4 f5 f6 f7 f8 → FitM f2 (gS G) → TXT f6 (gT G) (gN G) → xk 0 = nI 0 → RMx xk (gN0 G) → RMd f3 f4 f6 f8 (gN0 G) → Fr w w1 m (m + 11) → J 15 mX9_execute 36 [some (.ref m), none, none] [] w1 0 0 (GM w m [2, 4] (gExec G)) := by
    intro f2 f3 f4 f5 f6 f8 r
    induction r with
    | zero => intros; omega
    | succ r ih0 =>
      intro pre c p f7 xk w1 f9 q1 hcl hf9 hpa h6p hp hCs hCt hx hA hCc hK hTx hx0 hRx hRd hFr
      obtain ⟨h18, h19, h20, h21⟩ := id hx
      have hn60 := hTx.1
      have ih := fun pre c p f7 xk w1 (a : gN G < r + p) => ih0 pre c p f7 xk w1 (f9 - 1) a
      obtain ⟨f, g, h, mO, mS, mF, mK, hfk⟩ := id hA
      obtain ⟨m2, m3, m4, m5, m6, m7, m8⟩ := id hCc
      obtain ⟨x6, x7, x13, x14, x15, x16⟩ := id hRx
      obtain ⟨hV, hP, hT0, hO, ⟨hb8, hb60, hb14⟩, hE, hF⟩ := id hRd
      refine J_aload_n dX9_execute_36 rfl rfl ?_
      refine J_getfield dX9_execute_37 fX9_213 mO rfl ?_
      rw [h21]
      refine J_if_ne (tgt := 70) dX9_execute_40 (by decide) (fun h40 => ?_) (fun h40 => ?_)
      · skip
        have e40 : (pOne (gT G) (gN G) p).1.isNone = true := b2i_ne.mp h40
        have h1 : (pOne (gT G) (gN G) p).1 = none := Option.isNone_iff_eq_none.mp e40
        refine J_aload_n dX9_execute_70 rfl rfl ?_
        refine J_getfield dX9_execute_71 fX9_213 mO rfl ?_
        rw [h21]
        refine J_if_ne (tgt := 88) dX9_execute_74 (by decide) (fun h74 => ?_) (fun h74 => absurd (b2i_eq.mp h74) (by rw [e40]; decide))
        exact err (pOne (gT G) (gN G) p).2 f2 f3 f4 f5 f6 f7 f8 xk w1 (by rw [hpa, pAll_e _ (rdC_e (by rw [← h1]))]) (by have := pOne_le (t := gT G) hp; omega) h18 hA hCc hK hTx hx0 hRx hRd hFr
      · skip
        have e40 : (pOne (gT G) (gN G) p).1.isNone = false := b2i_eq.mp h40
        obtain ⟨cm, hcm⟩ : ∃ cm, (pOne (gT G) (gN G) p).1 = some cm := by
          cases z : (pOne (gT G) (gN G) p).1 with
          | none => rw [z] at e40; cases e40
          | some cm => exact ⟨cm, rfl⟩
        have hpo : pOne (gT G) (gN G) p = (some cm, (pOne (gT G) (gN G) p).2) := by rw [← hcm]
        obtain ⟨h9, -, hp5, -⟩ := pOne_some hpo
        have hle := pOne_le (t := gT G) hp
        refine J_aload_n dX9_execute_43 rfl rfl ?_
        refine J_iconst (v := nI 0) dX9_execute_44 (by decide) ?_
        refine K_callV dX9_execute_45 YX9_here kX9_217 (rc_of mO rfl) (c_X9_here (x := xk) ⟨mO, m6, m7⟩ hTx ⟨h18, h19, h20, h21⟩ hle (d := 0) (by omega)) rfl rfl (Nat.le_of_ble_eq_true rfl) (by decide) ?_
        refine J_bipush (v := nI 59) dX9_execute_48 (by decide) ?_
        refine J_icmp_ne (tgt := 70) dX9_execute_50 (by decide) (fun h50 => ?_) (fun h50 => ?_)
        · skip
          have h59 : ¬ ((pOne (gT G) (gN G) p).2 < gN G ∧ gT G (pOne (gT G) (gN G) p).2 = 59) := mt (hvv_eq hTx (i := (pOne (gT G) (gN G) p).2) (c := 59) (by omega)).mpr h50
          refine J_aload_n dX9_execute_70 rfl rfl ?_
          refine J_getfield dX9_execute_71 fX9_213 mO rfl ?_
          rw [h21]
          refine J_if_ne (tgt := 88) dX9_execute_74 (by decide) (fun h74 => absurd (b2i_ne.mp h74) (by rw [e40]; decide)) (fun h74 => ?_)
          refine J_aload_n dX9_execute_77 rfl rfl ?_
          refine J_getfield dX9_execute_78 fX9_202 mO rfl ?_
          rw [h18]
          refine J_aload_n dX9_execute_81 rfl rfl ?_
          refine J_getfield dX9_execute_82 fX9_205 mO rfl ?_
          rw [h19]
          refine J_icmp_ge (tgt := 102) dX9_execute_85 (by decide) (fun h85 => ?_) (fun h85 => ?_)
          · skip
            have h85 := (nI_leI (by omega) (by omega)).mp h85
            refine J_iconst (v := nI 0) dX9_execute_102 (by decide) ?_
            refine J_istore_n dX9_execute_103 rfl (by decide) rfl ?_
            have hrd := rdC_l hpo (show gN G ≤ (pOne (gT G) (gN G) p).2 by omega)
            have hpa2 : (pAll (gT G) (gN G) 61 0) = (pre ++ [cm], none) := by rw [hpa, pAll_l _ hrd]
            have hl1 : (pAll (gT G) (gN G) 61 0).1 = pre ++ [cm] := by rw [hpa2]
            have hll : (pAll (gT G) (gN G) 61 0).1.length = pre.length + 1 := by rw [hl1, List.length_append]; rfl
            refine dos f7 (by rw [hpa2]) (by rw [hl1]; exact CTs_app hCs (hCt cm hcm) h9) (by omega) ((pAll (gT G) (gN G) 61 0).1.length + 1) 0 (gS G) xk w1 _ (by omega) (by omega) rfl ⟨f2, f3, f4, f5, f6, f7, f8, hA, hCc, hK, hx0, hRx, hRd⟩ m7 (by rw [h20, hll, hcl]) hFr
          · skip
            have h85 := mt (nI_leI (by omega) (by omega)).mpr h85
            exact err (pOne (gT G) (gN G) p).2 f2 f3 f4 f5 f6 f7 f8 xk w1 (by rw [hpa, pAll_e _ (rdC_x hpo (by omega) (fun z => h59 ⟨by omega, z⟩))]) (by have := pOne_le (t := gT G) hp; omega) h18 hA hCc hK hTx hx0 hRx hRd hFr
        · skip
          have h59 : (pOne (gT G) (gN G) p).2 < gN G ∧ gT G (pOne (gT G) (gN G) p).2 = 59 := (hvv_eq hTx (i := (pOne (gT G) (gN G) p).2) (c := 59) (by omega)).mp h50
          refine J_aload_n dX9_execute_53 rfl rfl ?_
          refine J_dup dX9_execute_54 rfl ?_
          refine J_getfield dX9_execute_55 fX9_202 mO rfl ?_
          rw [h18]
          refine J_iconst (v := nI 1) dX9_execute_58 (by decide) ?_
          refine K_iadd (v := nI ((pOne (gT G) (gN G) p).2 + 1)) dX9_execute_59 (nI_add _ _) ?_
          refine K_putI dX9_execute_60 fX9_202 (Or.inl rfl) mO (Nat.le_of_ble_eq_true rfl) (fun w1 u1 => ?_)
          have m2 := (u1.2.1 _ (by omega)).trans m2
          have m3 := (u1.2.1 _ (by omega)).trans m3
          have m4 := (u1.2.1 _ (by omega)).trans m4
          have m5 := (u1.2.1 _ (by omega)).trans m5
          have m6 := (u1.2.1 _ (by omega)).trans m6
          have m7 := (u1.2.1 _ (by omega)).trans m7
          have m8 := (u1.2.1 _ (by omega)).trans m8
          have mF := (u1.2.1 _ (by omega)).trans mF
          have mK := (u1.2.1 _ (by omega)).trans mK
          have mO := u1.1
          have mS := (u1.2.1 _ (by omega)).trans mS
          have mO : w1.1 m = .inr (9, [.int (xk 0), .ref (m + 1), .ref (m + 2), .ref (m + 3), .ref (m + 4), .ref (m + 5), .int (xk 6), .int (xk 7), .ref (m + 6), .ref (m + 7), .ref (m + 8), .ref (m + 9), .ref (m + 10), .int (xk 13), .int (xk 14), .int (xk 15), .int (xk 16), .int (xk 17), .int (nI ((pOne (gT G) (gN G) p).2 + 1)), .int (xk 19), .int (xk 20), .int (xk 21)]) := mO
          refine J_aload_n dX9_execute_63 rfl rfl ?_
          refine K_callVp dX9_execute_64 YX9_readsOne kX9_269 (rc_of mO rfl) (c_X9_readsOne (c := c) (p := (pOne (gT G) (gN G) p).2 + 1) (x := va_up xk 18 (nI ((pOne (gT G) (gN G) p).2 + 1))) ⟨mO, m6, m7⟩ hTx ⟨up_s _ _ _, (up_n _ _ (by decide)).trans h19, (up_n _ _ (by decide)).trans h20, by rw [up_n _ _ (by decide), h21, hcm]; rfl⟩ (by omega) (by omega)) rfl rfl (Nat.le_of_ble_eq_true rfl) (by decide) (fun v64 w64 q64 => ?_)
          obtain ⟨rfl, hF64, x9, f79, hW9, hx9, hK9, hTK9, hCT9⟩ := q64
          refine J_goto (tgt := 36) dX9_execute_67 (by decide) ?_
          have hrd := rdC_c hpo h59
          have hCs2 := CTs_app (CTs_kept hCs hTK9 (by omega)) (by
            obtain ⟨a1, a2, a3⟩ := hCt cm hcm
            exact ⟨(hTK9 _ (by omega)).trans a1, (hTK9 _ (by omega)).trans a2, fun z => (hTK9 _ (by omega)).trans (a3 z)⟩) h9
          have hxx : ∀ j, j ≠ 18 → j ≠ 20 → j ≠ 21 → x9 j = xk j := fun j a b c => (hK9 j a b c).trans (up_n _ _ a)
          obtain ⟨mO9, m69, m79⟩ := hW9
          refine ih (pre ++ [cm]) (c + 1) ((pOne (gT G) (gN G) p).2 + 1) f79 x9 _ ?_ (by rw [List.length_append]; show c + 1 = pre.length + 1 + 1; omega) (by rw [List.length_append]; show f9 - 1 + (pre.length + 1) = 60; omega) ?_ (by rw [List.length_append]; show 6 * (pre.length + 1) ≤ _; omega) (by omega) hCs2 (fun cm2 h2 => by rw [List.length_append]; show CT f79 (pre.length + 1) cm2; rw [← hcl]; exact hCT9 cm2 h2) hx9 ?_ ?_ hK hTx ((hxx 0 (by decide) (by decide) (by decide)).trans hx0) (hRx.of (fun j _ _ a _ b c => hxx j a b c)) hRd ((hFr.up u1 (by omega) (by omega)).tr hF64.fr (by omega) (by omega))
          · omega
          · rw [hpa, pAll_c _ hrd, show f9 - 1 + 1 = f9 by omega]
            simp
          · exact ⟨f, g, h, mO9, (hF64.1 _ (by omega)).trans mS, (hF64.1 _ (by omega)).trans mF, (hF64.1 _ (by omega)).trans mK, hfk⟩
          · exact ⟨(hF64.1 _ (by omega)).trans m2, (hF64.1 _ (by omega)).trans m3, (hF64.1 _ (by omega)).trans m4, (hF64.1 _ (by omega)).trans m5, m69, m79, (hF64.1 _ (by omega)).trans m8⟩
  refine J_aload_n dX9_execute_0 rfl rfl ?_
  refine K_callVp dX9_execute_1 YX9_remembers kX9_127 (rc_of mO rfl) (c_X9_remembers hM) rfl rfl (Nat.le_of_ble_eq_true rfl) (by decide) (fun v1 w1 q1 => ?_)
  obtain ⟨rfl, hF1, x1, hI1⟩ := q1
  obtain ⟨f2, f3, f4, f5, f6, f7, f8, hA1, ⟨m2, m3, m4, m5, m6, m7, m8⟩, hK, hx0, hRx, hRd⟩ := id hI1
  obtain ⟨x6, x7, x13, x14, x15, x16⟩ := id hRx
  obtain ⟨hV, hP, hT, hO, ⟨hb8, hb60, hb14⟩, hE, hF⟩ := id hRd
  obtain ⟨f, g, h, mO, mS, mF, mK, hfit⟩ := id hA1
  have hTx : TXT f6 (gT G) (gN G) := ⟨hb60, hT⟩
  refine J_aload_n dX9_execute_4 rfl rfl ?_
  refine J_iconst (v := nI 0) dX9_execute_5 (by decide) ?_
  refine K_putI dX9_execute_6 fX9_202 (Or.inl rfl) mO (Nat.le_of_ble_eq_true rfl) (fun w1 u1 => ?_)
  have m2 := (u1.2.1 _ (by omega)).trans m2
  have m3 := (u1.2.1 _ (by omega)).trans m3
  have m4 := (u1.2.1 _ (by omega)).trans m4
  have m5 := (u1.2.1 _ (by omega)).trans m5
  have m6 := (u1.2.1 _ (by omega)).trans m6
  have m7 := (u1.2.1 _ (by omega)).trans m7
  have m8 := (u1.2.1 _ (by omega)).trans m8
  have mF := (u1.2.1 _ (by omega)).trans mF
  have mK := (u1.2.1 _ (by omega)).trans mK
  have mO := u1.1
  have mS := (u1.2.1 _ (by omega)).trans mS
  have mO : w1.1 m = .inr (9, [.int (x1 0), .ref (m + 1), .ref (m + 2), .ref (m + 3), .ref (m + 4), .ref (m + 5), .int (x1 6), .int (x1 7), .ref (m + 6), .ref (m + 7), .ref (m + 8), .ref (m + 9), .ref (m + 10), .int (x1 13), .int (x1 14), .int (x1 15), .int (x1 16), .int (x1 17), .int (nI 0), .int (x1 19), .int (x1 20), .int (x1 21)]) := mO
  refine J_aload_n dX9_execute_9 rfl rfl ?_
  refine J_aload_n dX9_execute_10 rfl rfl ?_
  refine J_getfield dX9_execute_11 fX9_199 mO rfl ?_
  rw [x13]
  refine K_putI dX9_execute_14 fX9_205 (Or.inl rfl) mO (Nat.le_of_ble_eq_true rfl) (fun w2 u2 => ?_)
  have m2 := (u2.2.1 _ (by omega)).trans m2
  have m3 := (u2.2.1 _ (by omega)).trans m3
  have m4 := (u2.2.1 _ (by omega)).trans m4
  have m5 := (u2.2.1 _ (by omega)).trans m5
  have m6 := (u2.2.1 _ (by omega)).trans m6
  have m7 := (u2.2.1 _ (by omega)).trans m7
  have m8 := (u2.2.1 _ (by omega)).trans m8
  have mF := (u2.2.1 _ (by omega)).trans mF
  have mK := (u2.2.1 _ (by omega)).trans mK
  have mO := u2.1
  have mS := (u2.2.1 _ (by omega)).trans mS
  have mO : w2.1 m = .inr (9, [.int (x1 0), .ref (m + 1), .ref (m + 2), .ref (m + 3), .ref (m + 4), .ref (m + 5), .int (x1 6), .int (x1 7), .ref (m + 6), .ref (m + 7), .ref (m + 8), .ref (m + 9), .ref (m + 10), .int (x1 13), .int (x1 14), .int (x1 15), .int (x1 16), .int (x1 17), .int (nI 0), .int (nI (gN G)), .int (x1 20), .int (x1 21)]) := mO
  refine J_aload_n dX9_execute_17 rfl rfl ?_
  refine J_iconst (v := nI 0) dX9_execute_18 (by decide) ?_
  refine K_putI dX9_execute_19 fX9_199 (Or.inl rfl) mO (Nat.le_of_ble_eq_true rfl) (fun w3 u3 => ?_)
  have m2 := (u3.2.1 _ (by omega)).trans m2
  have m3 := (u3.2.1 _ (by omega)).trans m3
  have m4 := (u3.2.1 _ (by omega)).trans m4
  have m5 := (u3.2.1 _ (by omega)).trans m5
  have m6 := (u3.2.1 _ (by omega)).trans m6
  have m7 := (u3.2.1 _ (by omega)).trans m7
  have m8 := (u3.2.1 _ (by omega)).trans m8
  have mF := (u3.2.1 _ (by omega)).trans mF
  have mK := (u3.2.1 _ (by omega)).trans mK
  have mO := u3.1
  have mS := (u3.2.1 _ (by omega)).trans mS
  have mO : w3.1 m = .inr (9, [.int (x1 0), .ref (m + 1), .ref (m + 2), .ref (m + 3), .ref (m + 4), .ref (m + 5), .int (x1 6), .int (x1 7), .ref (m + 6), .ref (m + 7), .ref (m + 8), .ref (m + 9), .ref (m + 10), .int (nI 0), .int (x1 14), .int (x1 15), .int (x1 16), .int (x1 17), .int (nI 0), .int (nI (gN G)), .int (x1 20), .int (x1 21)]) := mO
  refine J_aload_n dX9_execute_22 rfl rfl ?_
  refine J_iconst (v := nI 0) dX9_execute_23 (by decide) ?_
  refine K_putI dX9_execute_24 fX9_224 (Or.inl rfl) mO (Nat.le_of_ble_eq_true rfl) (fun w4 u4 => ?_)
  have m2 := (u4.2.1 _ (by omega)).trans m2
  have m3 := (u4.2.1 _ (by omega)).trans m3
  have m4 := (u4.2.1 _ (by omega)).trans m4
  have m5 := (u4.2.1 _ (by omega)).trans m5
  have m6 := (u4.2.1 _ (by omega)).trans m6
  have m7 := (u4.2.1 _ (by omega)).trans m7
  have m8 := (u4.2.1 _ (by omega)).trans m8
  have mF := (u4.2.1 _ (by omega)).trans mF
  have mK := (u4.2.1 _ (by omega)).trans mK
  have mO := u4.1
  have mS := (u4.2.1 _ (by omega)).trans mS
  have mO : w4.1 m = .inr (9, [.int (x1 0), .ref (m + 1), .ref (m + 2), .ref (m + 3), .ref (m + 4), .ref (m + 5), .int (x1 6), .int (x1 7), .ref (m + 6), .ref (m + 7), .ref (m + 8), .ref (m + 9), .ref (m + 10), .int (nI 0), .int (x1 14), .int (x1 15), .int (x1 16), .int (x1 17), .int (nI 0), .int (nI (gN G)), .int (nI 0), .int (x1 21)]) := mO
  refine J_aload_n dX9_execute_27 rfl rfl ?_
  refine J_iconst (v := nI 0) dX9_execute_28 (by decide) ?_
  refine K_putZ dX9_execute_29 fX9_213 (Or.inl rfl) mO (Nat.le_of_ble_eq_true rfl) (by decide) (fun w5 u5 => ?_)
  have m2 := (u5.2.1 _ (by omega)).trans m2
  have m3 := (u5.2.1 _ (by omega)).trans m3
  have m4 := (u5.2.1 _ (by omega)).trans m4
  have m5 := (u5.2.1 _ (by omega)).trans m5
  have m6 := (u5.2.1 _ (by omega)).trans m6
  have m7 := (u5.2.1 _ (by omega)).trans m7
  have m8 := (u5.2.1 _ (by omega)).trans m8
  have mF := (u5.2.1 _ (by omega)).trans mF
  have mK := (u5.2.1 _ (by omega)).trans mK
  have mO := u5.1
  have mS := (u5.2.1 _ (by omega)).trans mS
  have mO : w5.1 m = .inr (9, [.int (x1 0), .ref (m + 1), .ref (m + 2), .ref (m + 3), .ref (m + 4), .ref (m + 5), .int (x1 6), .int (x1 7), .ref (m + 6), .ref (m + 7), .ref (m + 8), .ref (m + 9), .ref (m + 10), .int (nI 0), .int (x1 14), .int (x1 15), .int (x1 16), .int (x1 17), .int (nI 0), .int (nI (gN G)), .int (nI 0), .int (nI 0)]) := mO
  refine J_aload_n dX9_execute_32 rfl rfl ?_
  refine K_callVp dX9_execute_33 YX9_readsOne kX9_269 (rc_of mO rfl) (c_X9_readsOne (c := 0) (p := 0) (x := va_up (va_up (va_up (va_up (va_up x1 13 (nI 0)) 18 (nI 0)) 19 (nI (gN G))) 20 (nI 0)) 21 (nI 0)) ⟨mO, m6, m7⟩ hTx ⟨rfl, rfl, rfl, rfl⟩ (by omega) (by omega)) rfl rfl (Nat.le_of_ble_eq_true rfl) (by decide) (fun v33 w33 q33 => ?_)
  obtain ⟨rfl, hF33, x9, f79, hW9, hx9, hK9, hTK9, hCT9⟩ := q33
  have hxx : ∀ j, j ≠ 18 → j ≠ 19 → j ≠ 20 → j ≠ 21 → j ≠ 13 → x9 j = x1 j := fun j a b c d e => (hK9 j a c d).trans ((up_n _ _ d).trans ((up_n _ _ c).trans ((up_n _ _ b).trans ((up_n _ _ a).trans (up_n _ _ e)))))
  obtain ⟨mO9, m69, m79⟩ := hW9
  exact read f2 f3 f4 f5 f6 f8 (gN G + 1) [] 1 0 f79 x9 _ 60 (by omega) rfl rfl rfl (by show 6 * 0 ≤ 0; omega) (by omega) (fun j hj => absurd hj (Nat.not_lt_zero j)) hCT9 hx9 ⟨f, g, h, mO9, (hF33.1 _ (by omega)).trans mS, (hF33.1 _ (by omega)).trans mF, (hF33.1 _ (by omega)).trans mK, hfit⟩ ⟨(hF33.1 _ (by omega)).trans m2, (hF33.1 _ (by omega)).trans m3, (hF33.1 _ (by omega)).trans m4, (hF33.1 _ (by omega)).trans m5, m69, m79, (hF33.1 _ (by omega)).trans m8⟩ hK hTx ((hxx 0 (by decide) (by decide) (by decide) (by decide) (by decide)).trans hx0) ⟨(hxx 6 (by decide) (by decide) (by decide) (by decide) (by decide)).trans x6, (hxx 7 (by decide) (by decide) (by decide) (by decide) (by decide)).trans x7, (hK9 13 (by decide) (by decide) (by decide)).trans rfl, (hxx 14 (by decide) (by decide) (by decide) (by decide) (by decide)).trans x14, (hxx 15 (by decide) (by decide) (by decide) (by decide) (by decide)).trans x15, (hxx 16 (by decide) (by decide) (by decide) (by decide) (by decide)).trans x16⟩ ⟨hV, hP, (fun j hj => absurd hj (Nat.not_lt_zero j)), hO, ⟨hb8, Nat.zero_le _, hb14⟩, hE, hF⟩ ((((((hF1.up u1 (by omega) (by omega)).up u2 (by omega) (by omega)).up u3 (by omega) (by omega)).up u4 (by omega) (by omega)).up u5 (by omega) (by omega)).tr hF33.fr (by omega) (by omega))

end JMEXEC

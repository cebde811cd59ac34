/-! THE MODEL: arrivals, numbers, texts, what is kept -/
section JMREST
theorem n64_of {r : UInt64} (h : r.toNat % 2 ^ 63 ≤ 9218868437227405312) : vf_n64 r := by
  unfold vf_n64
  rw [UInt64.le_iff_toNat_le, UInt64.toNat_and]
  have e : (0x7fffffffffffffff : UInt64).toNat = 2 ^ 63 - 1 := by decide
  rw [e, Nat.and_two_pow_sub_one_eq_mod]
  exact h
theorem ddiv_n {a b : Int32} (hb : b ≠ 0) : vf_n64 (FP.ddiv (FP.i2d a) (FP.i2d b)) := by
  apply n64_of
  have h1 : FP.Core.dIsNaN (FP.Core.ddiv (FP.Core.i2d a) (FP.Core.i2d b)) = false := FP.Core.ddiv_out (FP.Core.DFin.notNaN (FP.Core.i2d_fin a)) (FP.Core.i2d_fin b) (fun z => FP.Core.i2d_ne_zero hb ((FP.Core.zero_bits2 _).mp z))
  exact (FP.Core.ne_nan _).mp ((FP.Core.notNaN_iff _).mp h1)
def gMean (S : St) : UInt64 := FP.ddiv (FP.i2d (sumW (sWa S) (sNt S))) (FP.i2d (nI (sNt S)))
def gOcc (S : St) : UInt32 := FP.fdiv (FP.i2f (nI (sNt S))) (FP.i2f (nI (sNb S)))
theorem occ_t : ∀ a, a < 7 → ∀ b, b < 14 → (FP.fdiv (FP.i2f (nI a)) (FP.i2f (nI (b + 1))) &&& 0x7fffffff ≤ 0x7f800000) ∧ (FP.f2d (FP.fdiv (FP.i2f (nI a)) (FP.i2f (nI (b + 1)))) &&& 0x7fffffffffffffff ≤ 0x7ff0000000000000) := by decide +kernel
theorem occ_n {S : St} (h : WF S) (hb : sNb S ≠ 0) : vf_n32 (gOcc S) ∧ vf_n64 (FP.f2d (gOcc S)) := by
  have hnb := h.nb
  have hnt := h.nt
  have := occ_t (sNt S) (by omega) (sNb S - 1) (by omega)
  rw [show sNb S - 1 + 1 = sNb S by omega] at this
  exact this
theorem mean_n {S : St} (h : WF S) (hb : sNt S ≠ 0) : vf_n64 (gMean S) := ddiv_n (fun z => by
  have hnt := h.nt
  have := nI_inj (a := sNt S) (b := 0) (by omega) (by omega) z
  omega)
theorem tta_some {S : St} {t k : Nat} (hk : k < 99) (h : (sGo (ticksN (k + 1) S) t).isNone = true) (hno : ∀ j, j < k → (sGo (ticksN (j + 1) S) t).isNone = false) : tta S t = some (k + 1) := by unfold tta; rw [fnd_some hk h hno]; rfl
theorem tta_none {S : St} {t : Nat} (hno : ∀ j, j < 99 → (sGo (ticksN (j + 1) S) t).isNone = false) : tta S t = none := by unfold tta; rw [fnd_none hno]; rfl
theorem tta_lt {S : St} {t k : Nat} (h : tta S t = some k) : 1 ≤ k ∧ k ≤ 99 := by
  unfold tta at h
  cases e : fnd 99 (fun k => (sGo (ticksN (k + 1) S) t).isNone) with
  | none => rw [e] at h; cases h
  | some j =>
    rw [e] at h
    cases h
    have := (fnd_is e).1
    exact ⟨Nat.succ_pos _, by show j + 1 ≤ 99; omega⟩
theorem qArr_ok {S : St} {i gg : Nat} (e : vi (sNt S) (nI i) = some i) (h : sGo S i = some gg) : qArr S (nI i) = opA (tta S i) := by unfold qArr; rw [onI_ok e, h]
theorem qArr_no1 {S : St} {y : Int32} (e : vi (sNt S) y = none) : qArr S y = (1, 0) := onI_no e
theorem qArr_no2 {S : St} {i : Nat} (e : vi (sNt S) (nI i) = some i) (h : sGo S i = none) : qArr S (nI i) = (5, 0) := by unfold qArr; rw [onI_ok e, h]
theorem c_X9_ticksUntilArrival {w : Wd} {m : Nat} {G : Gme} {th : Nat} (hM : RepM w m G th) (y : Int32) : MC 7 mX9_ticksUntilArrival 0 0 [.ref m, .int y] w (GM w m [1, 5] (gQ G (qArr (gS G) y))) := by
  obtain ⟨x, f2, f3, f4, f5, f6, f7, f8, hA, ⟨m2, m3, m4, m5, m6, m7, m8⟩, hx0, hRx, hRd⟩ := id hM
  obtain ⟨x6, x7, x13, x14, x15, x16⟩ := id hRx
  obtain ⟨hV, hP, hT, hO, ⟨hb8, hb60, hb14⟩, hE, hF⟩ := id hRd
  obtain ⟨f, g, h, mO, mS, mF, mK, hfit⟩ := id hA
  have hwf := hfit.2.2.2.2
  have hnb := hwf.nb
  have hnt := hwf.nt
  refine MC_j pnX9 rfl rfl rfl (Or.inr (fun E w h => RP_no E w h)) ?_
  show J 7 mX9_ticksUntilArrival 0 [some (.ref m), some (.int y), none, none] [] w 0 0 _
  have fin : ∀ i, i < sNt (gS G) → vi (sNt (gS G)) (nI i) = some i → ∀ gg, sGo (gS G) i = some gg → ∀ g1 h1 fs w1 o3 fd, FitM fd (gS G) → w1.1 m = mCell m (va_up x 0 (nI 0)) → w1.1 (m + 1) = .inl (0, 116, .inl fd) → w1.1 (m + 2) = .inl (0, 116, .inl f2) → w1.1 (m + 3) = .inl (0, 116, .inl f3) → w1.1 (m + 4) = .inl (0, 928, .inl f4) → w1.1 (m + 5) = .inl (0, 116, .inl fs) → w1.1 (m + 6) = .inl (0, 60, .inl f6) → w1.1 (m + 7) = .inl (0, 180, .inl f7) → w1.1 (m + 8) = .inl (0, 40, .inl f8) → w1.1 (m + 9) = .inl (0, 14, .inl g1) → w1.1 (m + 10) = .inl (0, 14, .inl h1) → Fr w w1 m (m + 11) → J 7 mX9_ticksUntilArrival 129 [some (.ref m), some (.int (nI i)), some (.int (match tta (gS G) i with | none => nI 0 | some k => nI k)), o3] [] w1 0 0 (GM w m [1, 5] (gQ G (qArr (gS G) (nI i)))) := by
    intro i hi e6 gg hgg g1 h1 fs w1 o3 fd hfit mO mS m2 m3 m4 m5 m6 m7 m8 mF mK hFr
    have mO : w1.1 m = .inr (9, [.int (nI 0), .ref (m + 1), .ref (m + 2), .ref (m + 3), .ref (m + 4), .ref (m + 5), .int (x 6), .int (x 7), .ref (m + 6), .ref (m + 7), .ref (m + 8), .ref (m + 9), .ref (m + 10), .int (x 13), .int (x 14), .int (x 15), .int (x 16), .int (x 17), .int (x 18), .int (x 19), .int (x 20), .int (x 21)]) := mO
    cases htt : tta (gS G) i with
    | none =>
      refine J_iload_n dX9_ticksUntilArrival_129 rfl rfl ?_
      refine J_if_ne (tgt := 141) dX9_ticksUntilArrival_130 (by decide) (fun h130 => absurd h130 (by decide)) (fun h130 => ?_)
      refine J_aload_n dX9_ticksUntilArrival_133 rfl rfl ?_
      refine J_iconst (v := nI 2) dX9_ticksUntilArrival_134 (by decide) ?_
      refine K_callVp dX9_ticksUntilArrival_135 YX9_fails kX9_60 (rc_of mO rfl) (c_X9_fails (x := va_up x 0 (nI 0)) mO _) rfl rfl (Nat.le_of_ble_eq_true rfl) (by decide) (fun v135 w135 q135 => ?_)
      obtain ⟨rfl, u135⟩ := q135
      have mO : w135.1 m = .inr (9, [.int (nI 2), .ref (m + 1), .ref (m + 2), .ref (m + 3), .ref (m + 4), .ref (m + 5), .int (x 6), .int (x 7), .ref (m + 6), .ref (m + 7), .ref (m + 8), .ref (m + 9), .ref (m + 10), .int (x 13), .int (x 14), .int (x 15), .int (x 16), .int (x 17), .int (x 18), .int (x 19), .int (x 20), .int (x 21)]) := u135.1
      have mS := (u135.2.1 _ (by omega)).trans mS
      have mF := (u135.2.1 _ (by omega)).trans mF
      have mK := (u135.2.1 _ (by omega)).trans mK
      have m2 := (u135.2.1 _ (by omega)).trans m2
      have m3 := (u135.2.1 _ (by omega)).trans m3
      have m4 := (u135.2.1 _ (by omega)).trans m4
      have m5 := (u135.2.1 _ (by omega)).trans m5
      have m6 := (u135.2.1 _ (by omega)).trans m6
      have m7 := (u135.2.1 _ (by omega)).trans m7
      have m8 := (u135.2.1 _ (by omega)).trans m8
      refine J_goto (tgt := 142) dX9_ticksUntilArrival_138 (by decide) ?_
      exact J_ireturn dX9_ticksUntilArrival_142 rfl rfl (GM_of (c := 5) (v := 0) (G' := G) (th := 2) (gQ_eq ((qArr_ok e6 hgg).trans (opA_no htt))) (fun z => absurd z (by decide)) (hFr.up u135 (by omega) (by omega)) (by decide) ⟨va_up x 0 (nI 2), _, _, _, _, _, _, _, ⟨_, _, _, mO, mS, mF, mK, hfit⟩, ⟨m2, m3, m4, m5, m6, m7, m8⟩, (up_s _ _ _), ⟨((up_n _ _ (by decide)).trans x6), ((up_n _ _ (by decide)).trans x7), ((up_n _ _ (by decide)).trans x13), ((up_n _ _ (by decide)).trans x14), ((up_n _ _ (by decide)).trans x15), ((up_n _ _ (by decide)).trans x16)⟩, hRd⟩)
    | some k =>
      have hk := tta_lt htt
      refine J_iload_n dX9_ticksUntilArrival_129 rfl rfl ?_
      refine J_if_ne (tgt := 141) dX9_ticksUntilArrival_130 (by decide) (fun h130 => ?_) (fun h130 => absurd h130 (nI_ne0 (by omega) (by omega)))
      refine J_iload_n dX9_ticksUntilArrival_141 rfl rfl ?_
      exact J_ireturn dX9_ticksUntilArrival_142 rfl rfl (GM_of (c := 0) (v := nI k) (G' := G) (th := 0) (gQ_eq ((qArr_ok e6 hgg).trans (opA_ok htt))) (fun _ => rfl) hFr (by decide) ⟨va_up x 0 (nI 0), _, _, _, _, _, _, _, ⟨_, _, _, mO, mS, mF, mK, hfit⟩, ⟨m2, m3, m4, m5, m6, m7, m8⟩, (up_s _ _ _), ⟨((up_n _ _ (by decide)).trans x6), ((up_n _ _ (by decide)).trans x7), ((up_n _ _ (by decide)).trans x13), ((up_n _ _ (by decide)).trans x14), ((up_n _ _ (by decide)).trans x15), ((up_n _ _ (by decide)).trans x16)⟩, hRd⟩)
  have back0 : ∀ i, i < sNt (gS G) → vi (sNt (gS G)) (nI i) = some i → ∀ gg, sGo (gS G) i = some gg → ∀ g1 h1 fs, (∀ j, j < 116 → fs j = f j) → ∀ n k fd w1, 116 < n + k → k ≤ 116 → w1.1 m = mCell m (va_up x 0 (nI 0)) → w1.1 (m + 1) = .inl (0, 116, .inl fd) → w1.1 (m + 2) = .inl (0, 116, .inl f2) → w1.1 (m + 3) = .inl (0, 116, .inl f3) → w1.1 (m + 4) = .inl (0, 928, .inl f4) → w1.1 (m + 5) = .inl (0, 116, .inl fs) → w1.1 (m + 6) = .inl (0, 60, .inl f6) → w1.1 (m + 7) = .inl (0, 180, .inl f7) → w1.1 (m + 8) = .inl (0, 40, .inl f8) → w1.1 (m + 9) = .inl (0, 14, .inl g1) → w1.1 (m + 10) = .inl (0, 14, .inl h1) → Fr w w1 m (m + 11) → (∀ j, j < k → fd j = f j) → J 7 mX9_ticksUntilArrival 105 [some (.ref m), some (.int (nI i)), some (.int (match tta (gS G) i with | none => nI 0 | some k => nI k)), some (.int (nI k))] [] w1 0 0 (GM w m [1, 5] (gQ G (qArr (gS G) (nI i)))) := by
    intro i hi e6 gg hgg g1 h1 fs hfs n
    have back : ∀ fd w1 o3, w1.1 m = mCell m (va_up x 0 (nI 0)) → w1.1 (m + 1) = .inl (0, 116, .inl fd) → w1.1 (m + 2) = .inl (0, 116, .inl f2) → w1.1 (m + 3) = .inl (0, 116, .inl f3) → w1.1 (m + 4) = .inl (0, 928, .inl f4) → w1.1 (m + 5) = .inl (0, 116, .inl fs) → w1.1 (m + 6) = .inl (0, 60, .inl f6) → w1.1 (m + 7) = .inl (0, 180, .inl f7) → w1.1 (m + 8) = .inl (0, 40, .inl f8) → w1.1 (m + 9) = .inl (0, 14, .inl g1) → w1.1 (m + 10) = .inl (0, 14, .inl h1) → Fr w w1 m (m + 11) → (∀ j, j < 116 → fd j = f j) → J 7 mX9_ticksUntilArrival 129 [some (.ref m), some (.int (nI i)), some (.int (match tta (gS G) i with | none => nI 0 | some k => nI k)), o3] [] w1 0 0 (GM w m [1, 5] (gQ G (qArr (gS G) (nI i)))) := by
      intro fd w1 o3 mO mS m2 m3 m4 m5 m6 m7 m8 mF mK hFr hrow
      exact fin i hi e6 gg hgg g1 h1 fs w1 o3 fd (fit_kept hfit hrow) mO mS m2 m3 m4 m5 m6 m7 m8 mF mK hFr
    induction n with
    | zero => intros; omega
    | succ n ih =>
      intro k fd w1 q1 q2 mO mS m2 m3 m4 m5 m6 m7 m8 mF mK hFr hrow
      have mO : w1.1 m = .inr (9, [.int (nI 0), .ref (m + 1), .ref (m + 2), .ref (m + 3), .ref (m + 4), .ref (m + 5), .int (x 6), .int (x 7), .ref (m + 6), .ref (m + 7), .ref (m + 8), .ref (m + 9), .ref (m + 10), .int (x 13), .int (x 14), .int (x 15), .int (x 16), .int (x 17), .int (x 18), .int (x 19), .int (x 20), .int (x 21)]) := mO
      refine J_iload_n dX9_ticksUntilArrival_105 rfl rfl ?_
      refine J_bipush (v := nI 116) dX9_ticksUntilArrival_106 (by decide) ?_
      refine J_icmp_ge (tgt := 129) dX9_ticksUntilArrival_108 (by decide) (fun h108 => ?_) (fun h108 => ?_)
      · skip
        have h108 := (nI_leI (by omega) (by omega)).mp h108
        have ek : k = 116 := by omega
        exact back fd w1 _ mO mS m2 m3 m4 m5 m6 m7 m8 mF mK hFr (fun j hj => hrow j (by omega))
      · skip
        have h108 := mt (nI_leI (by omega) (by omega)).mpr h108
        refine J_aload_n dX9_ticksUntilArrival_111 rfl rfl ?_
        refine J_getfield dX9_ticksUntilArrival_112 fX9_7 mO rfl ?_
        refine J_iload_n dX9_ticksUntilArrival_115 rfl rfl ?_
        refine J_aload_n dX9_ticksUntilArrival_116 rfl rfl ?_
        refine J_getfield dX9_ticksUntilArrival_117 fX9_22 mO rfl ?_
        refine J_iload_n dX9_ticksUntilArrival_120 rfl rfl ?_
        refine K_iald (v := f k) dX9_ticksUntilArrival_121 m5 (by omega) (by decide) (hfs k (by omega)) ?_
        refine K_iast dX9_ticksUntilArrival_122 mS (by omega) (by decide) (fun w1 u1 => ?_)
        have m2 := (u1.2.1 _ (by omega)).trans m2
        have m3 := (u1.2.1 _ (by omega)).trans m3
        have m4 := (u1.2.1 _ (by omega)).trans m4
        have m5 := (u1.2.1 _ (by omega)).trans m5
        have m6 := (u1.2.1 _ (by omega)).trans m6
        have m7 := (u1.2.1 _ (by omega)).trans m7
        have m8 := (u1.2.1 _ (by omega)).trans m8
        have mF := (u1.2.1 _ (by omega)).trans mF
        have mK := (u1.2.1 _ (by omega)).trans mK
        have mO := (u1.2.1 _ (by omega)).trans mO
        have mS := u1.1
        refine J_iinc (v := nI (k + 1)) dX9_ticksUntilArrival_123 rfl (nI_succ _).symm (by decide) rfl ?_
        refine J_goto (tgt := 105) dX9_ticksUntilArrival_126 (by decide) ?_
        exact ih (k + 1) _ _ (by omega) (by omega) mO mS m2 m3 m4 m5 m6 m7 m8 mF mK (hFr.up u1 (by omega) (by omega)) (fun j hj => by
          by_cases e : j = k
          · subst e; rw [up_s]
          · rw [up_n _ _ e]; exact hrow j (by omega))
  have ticks : ∀ i, i < sNt (gS G) → vi (sNt (gS G)) (nI i) = some i → ∀ gg, sGo (gS G) i = some gg → ∀ fs, (∀ j, j < 116 → fs j = f j) → ∀ n k f1 g1 h1 w1, 99 < n + k → k ≤ 99 → FitM f1 (ticksN k (gS G)) → (sGo (ticksN k (gS G)) i).isSome = true → (∀ j, j < k → (sGo (ticksN (j + 1) (gS G)) i).isNone = false) → w1.1 m = mCell m (va_up x 0 (nI 0)) → w1.1 (m + 1) = .inl (0, 116, .inl f1) → w1.1 (m + 2) = .inl (0, 116, .inl f2) → w1.1 (m + 3) = .inl (0, 116, .inl f3) → w1.1 (m + 4) = .inl (0, 928, .inl f4) → w1.1 (m + 5) = .inl (0, 116, .inl fs) → w1.1 (m + 6) = .inl (0, 60, .inl f6) → w1.1 (m + 7) = .inl (0, 180, .inl f7) → w1.1 (m + 8) = .inl (0, 40, .inl f8) → w1.1 (m + 9) = .inl (0, 14, .inl g1) → w1.1 (m + 10) = .inl (0, 14, .inl h1) → Fr w w1 m (m + 11) → J 7 mX9_ticksUntilArrival 69 [some (.ref m), some (.int (nI i)), some (.int (nI 0)), some (.int (nI (k + 1)))] [] w1 0 0 (GM w m [1, 5] (gQ G (qArr (gS G) (nI i)))) := by
    intro i hi e6 gg hgg fs hfs n
    induction n with
    | zero => intros; omega
    | succ n ih =>
      intro k f1 g1 h1 w1 q1 q2 hft hsome hno mO mS m2 m3 m4 m5 m6 m7 m8 mF mK hFr
      have found : k < 99 → (sGo (ticksN (k + 1) (gS G)) i).isNone = true → ∀ f1 g1 h1 w1, FitM f1 (ticksN (k + 1) (gS G)) → w1.1 m = mCell m (va_up x 0 (nI 0)) → w1.1 (m + 1) = .inl (0, 116, .inl f1) → w1.1 (m + 2) = .inl (0, 116, .inl f2) → w1.1 (m + 3) = .inl (0, 116, .inl f3) → w1.1 (m + 4) = .inl (0, 928, .inl f4) → w1.1 (m + 5) = .inl (0, 116, .inl fs) → w1.1 (m + 6) = .inl (0, 60, .inl f6) → w1.1 (m + 7) = .inl (0, 180, .inl f7) → w1.1 (m + 8) = .inl (0, 40, .inl f8) → w1.1 (m + 9) = .inl (0, 14, .inl g1) → w1.1 (m + 10) = .inl (0, 14, .inl h1) → Fr w w1 m (m + 11) → J 7 mX9_ticksUntilArrival 69 [some (.ref m), some (.int (nI i)), some (.int (nI (k + 1))), some (.int (nI (k + 1 + 1)))] [] w1 0 0 (GM w m [1, 5] (gQ G (qArr (gS G) (nI i)))) := by
        intro hk99 hx f1 g1 h1 w1 hft mO mS m2 m3 m4 m5 m6 m7 m8 mF mK hFr
        have mO : w1.1 m = .inr (9, [.int (nI 0), .ref (m + 1), .ref (m + 2), .ref (m + 3), .ref (m + 4), .ref (m + 5), .int (x 6), .int (x 7), .ref (m + 6), .ref (m + 7), .ref (m + 8), .ref (m + 9), .ref (m + 10), .int (x 13), .int (x 14), .int (x 15), .int (x 16), .int (x 17), .int (x 18), .int (x 19), .int (x 20), .int (x 21)]) := mO
        have htt := tta_some hk99 hx hno
        have g0 := back0 i hi e6 gg hgg g1 h1 fs hfs 117 0 f1
        rw [htt] at g0
        have g0 : ∀ w1, w1.1 m = mCell m (va_up x 0 (nI 0)) → w1.1 (m + 1) = .inl (0, 116, .inl f1) → w1.1 (m + 2) = .inl (0, 116, .inl f2) → w1.1 (m + 3) = .inl (0, 116, .inl f3) → w1.1 (m + 4) = .inl (0, 928, .inl f4) → w1.1 (m + 5) = .inl (0, 116, .inl fs) → w1.1 (m + 6) = .inl (0, 60, .inl f6) → w1.1 (m + 7) = .inl (0, 180, .inl f7) → w1.1 (m + 8) = .inl (0, 40, .inl f8) → w1.1 (m + 9) = .inl (0, 14, .inl g1) → w1.1 (m + 10) = .inl (0, 14, .inl h1) → Fr w w1 m (m + 11) → J 7 mX9_ticksUntilArrival 105 [some (.ref m), some (.int (nI i)), some (.int (nI (k + 1))), some (.int (nI 0))] [] w1 0 0 (GM w m [1, 5] (gQ G (qArr (gS G) (nI i)))) := fun w1 a0 a1 a2 a3 a4 a5 a6 a7 a8 a9 a10 a11 => g0 w1 (by omega) (by omega) a0 a1 a2 a3 a4 a5 a6 a7 a8 a9 a10 a11 (fun j hj => by omega)
        refine J_iload_n dX9_ticksUntilArrival_69 rfl rfl ?_
        refine J_bipush (v := nI 99) dX9_ticksUntilArrival_70 (by decide) ?_
        refine J_icmp_gt (tgt := 103) dX9_ticksUntilArrival_72 (by decide) (fun h72 => ?_) (fun h72 => ?_)
        · skip
          have h72 := (nI_ltI (by omega) (by omega)).mp h72
          refine J_iconst (v := nI 0) dX9_ticksUntilArrival_103 (by decide) ?_
          refine J_istore_n dX9_ticksUntilArrival_104 rfl (by decide) rfl ?_
          exact g0 w1 mO mS m2 m3 m4 m5 m6 m7 m8 mF mK hFr
        · skip
          have h72 := mt (nI_ltI (by omega) (by omega)).mpr h72
          refine J_iload_n dX9_ticksUntilArrival_75 rfl rfl ?_
          refine J_if_ne (tgt := 103) dX9_ticksUntilArrival_76 (by decide) (fun h76 => ?_) (fun h76 => absurd h76 (nI_ne0 (by omega) (by omega)))
          refine J_iconst (v := nI 0) dX9_ticksUntilArrival_103 (by decide) ?_
          refine J_istore_n dX9_ticksUntilArrival_104 rfl (by decide) rfl ?_
          exact g0 w1 mO mS m2 m3 m4 m5 m6 m7 m8 mF mK hFr
      have mO : w1.1 m = .inr (9, [.int (nI 0), .ref (m + 1), .ref (m + 2), .ref (m + 3), .ref (m + 4), .ref (m + 5), .int (x 6), .int (x 7), .ref (m + 6), .ref (m + 7), .ref (m + 8), .ref (m + 9), .ref (m + 10), .int (x 13), .int (x 14), .int (x 15), .int (x 16), .int (x 17), .int (x 18), .int (x 19), .int (x 20), .int (x 21)]) := mO
      refine J_iload_n dX9_ticksUntilArrival_69 rfl rfl ?_
      refine J_bipush (v := nI 99) dX9_ticksUntilArrival_70 (by decide) ?_
      refine J_icmp_gt (tgt := 103) dX9_ticksUntilArrival_72 (by decide) (fun h72 => ?_) (fun h72 => ?_)
      · skip
        have h72 := (nI_ltI (by omega) (by omega)).mp h72
        have ek : k = 99 := by omega
        subst ek
        have htt := tta_none (fun j hj => hno j (by omega))
        refine J_iconst (v := nI 0) dX9_ticksUntilArrival_103 (by decide) ?_
        refine J_istore_n dX9_ticksUntilArrival_104 rfl (by decide) rfl ?_
        have g := back0 i hi e6 gg hgg _ _ fs hfs 117 0 _ w1 (by omega) (by omega) mO mS m2 m3 m4 m5 m6 m7 m8 mF mK hFr (fun j hj => by omega)
        rw [htt] at g
        exact g
      · skip
        have h72 := mt (nI_ltI (by omega) (by omega)).mpr h72
        refine J_iload_n dX9_ticksUntilArrival_75 rfl rfl ?_
        refine J_if_ne (tgt := 103) dX9_ticksUntilArrival_76 (by decide) (fun h76 => absurd h76 (by decide)) (fun h76 => ?_)
        refine J_aload_n dX9_ticksUntilArrival_79 rfl rfl ?_
        refine K_callVp dX9_ticksUntilArrival_80 YX9_oneTick kX9_124 (rc_of mO rfl) (c_X9_oneTick (x := va_up x 0 (nI 0)) ⟨_, _, _, mO, mS, mF, mK, hft⟩) rfl rfl (Nat.le_of_ble_eq_true rfl) (by decide) (fun v80 w80 q80 => ?_)
        obtain ⟨hF80, hA80, y80, p80, rfl, hb80, hp80⟩ := q80
        have hp := hp80 i (by rw [(ticks_nn (gS G) k).2]; exact hi) hsome
        obtain ⟨f9, g9, h9, mO, mS, mF, mK, hft⟩ := hA80
        have m2 := (hF80.1 _ (by omega)).trans m2
        have m3 := (hF80.1 _ (by omega)).trans m3
        have m4 := (hF80.1 _ (by omega)).trans m4
        have m5 := (hF80.1 _ (by omega)).trans m5
        have m6 := (hF80.1 _ (by omega)).trans m6
        have m7 := (hF80.1 _ (by omega)).trans m7
        have m8 := (hF80.1 _ (by omega)).trans m8
        have hFr := hFr.tr hF80.fr (by omega) (by omega)
        refine J_iload_n dX9_ticksUntilArrival_83 rfl rfl ?_
        refine K_ishr (v := y80 >>> (nI i &&& 31)) dX9_ticksUntilArrival_84 rfl ?_
        refine J_iconst (v := 1) dX9_ticksUntilArrival_85 (by decide) ?_
        refine K_iand (v := b2i (p80 i)) dX9_ticksUntilArrival_86 (bit_of hb80 (by omega)) ?_
        refine J_iconst (v := nI 1) dX9_ticksUntilArrival_87 (by decide) ?_
        refine J_icmp_ne (tgt := 95) dX9_ticksUntilArrival_88 (by decide) (fun h88 => ?_) (fun h88 => ?_)
        · skip
          have e88 : p80 i = false := b2i_n1 h88
          refine J_iconst (v := nI 0) dX9_ticksUntilArrival_95 (by decide) ?_
          refine J_istore_n dX9_ticksUntilArrival_96 rfl (by decide) rfl ?_
          refine J_iinc (v := nI (k + 1 + 1)) dX9_ticksUntilArrival_97 rfl (nI_succ _).symm (by decide) rfl ?_
          refine J_goto (tgt := 69) dX9_ticksUntilArrival_100 (by decide) ?_
          exact ih (k + 1) _ _ _ _ (by omega) (by omega) hft (by rw [show (sGo (ticksN (k + 1) (gS G)) i) = sGo (tick (ticksN k (gS G))) i from rfl]; cases q : sGo (tick (ticksN k (gS G))) i with | none => rw [q] at hp; rw [e88] at hp; cases hp | some _ => rfl) (fun j hj => by
            by_cases e : j = k
            · subst e; exact hp.symm.trans e88
            · exact hno j (by omega)) mO mS m2 m3 m4 m5 m6 m7 m8 mF mK hFr
        · skip
          have e88 : p80 i = true := b2i_1.mp h88
          refine J_iload_n dX9_ticksUntilArrival_91 rfl rfl ?_
          refine J_goto (tgt := 96) dX9_ticksUntilArrival_92 (by decide) ?_
          refine J_istore_n dX9_ticksUntilArrival_96 rfl (by decide) rfl ?_
          refine J_iinc (v := nI (k + 1 + 1)) dX9_ticksUntilArrival_97 rfl (nI_succ _).symm (by decide) rfl ?_
          refine J_goto (tgt := 69) dX9_ticksUntilArrival_100 (by decide) ?_
          exact found (by omega) (e88.symm.trans hp).symm _ _ _ _ hft mO mS m2 m3 m4 m5 m6 m7 m8 mF mK hFr
  have copy : ∀ i, i < sNt (gS G) → vi (sNt (gS G)) (nI i) = some i → ∀ gg, sGo (gS G) i = some gg → ∀ n k fd w1, 116 < n + k → k ≤ 116 → w1.1 m = mCell m (va_up x 0 (nI 0)) → w1.1 (m + 1) = .inl (0, 116, .inl f) → w1.1 (m + 2) = .inl (0, 116, .inl f2) → w1.1 (m + 3) = .inl (0, 116, .inl f3) → w1.1 (m + 4) = .inl (0, 928, .inl f4) → w1.1 (m + 5) = .inl (0, 116, .inl fd) → w1.1 (m + 6) = .inl (0, 60, .inl f6) → w1.1 (m + 7) = .inl (0, 180, .inl f7) → w1.1 (m + 8) = .inl (0, 40, .inl f8) → w1.1 (m + 9) = .inl (0, 14, .inl g) → w1.1 (m + 10) = .inl (0, 14, .inl h) → Fr w w1 m (m + 11) → (∀ j, j < k → fd j = f j) → J 7 mX9_ticksUntilArrival 41 [some (.ref m), some (.int (nI i)), some (.int (nI k)), none] [] w1 0 0 (GM w m [1, 5] (gQ G (qArr (gS G) (nI i)))) := by
    intro i hi e6 gg hgg n
    induction n with
    | zero => intros; omega
    | succ n ih =>
      intro k fd w1 q1 q2 mO mS m2 m3 m4 m5 m6 m7 m8 mF mK hFr hrow
      have mO : w1.1 m = .inr (9, [.int (nI 0), .ref (m + 1), .ref (m + 2), .ref (m + 3), .ref (m + 4), .ref (m + 5), .int (x 6), .int (x 7), .ref (m + 6), .ref (m + 7), .ref (m + 8), .ref (m + 9), .ref (m + 10), .int (x 13), .int (x 14), .int (x 15), .int (x 16), .int (x 17), .int (x 18), .int (x 19), .int (x 20), .int (x 21)]) := mO
      refine J_iload_n dX9_ticksUntilArrival_41 rfl rfl ?_
      refine J_bipush (v := nI 116) dX9_ticksUntilArrival_42 (by decide) ?_
      refine J_icmp_ge (tgt := 65) dX9_ticksUntilArrival_44 (by decide) (fun h44 => ?_) (fun h44 => ?_)
      · skip
        have h44 := (nI_leI (by omega) (by omega)).mp h44
        have ek : k = 116 := by omega
        refine J_iconst (v := nI 0) dX9_ticksUntilArrival_65 (by decide) ?_
        refine J_istore_n dX9_ticksUntilArrival_66 rfl (by decide) rfl ?_
        refine J_iconst (v := nI 1) dX9_ticksUntilArrival_67 (by decide) ?_
        refine J_istore_n dX9_ticksUntilArrival_68 rfl (by decide) rfl ?_
        exact ticks i hi e6 gg hgg fd (fun j hj => hrow j (by omega)) 100 0 f _ _ w1 (by omega) (by omega) hfit (by rw [show ticksN 0 (gS G) = gS G from rfl, hgg]; rfl) (fun j hj => by omega) mO mS m2 m3 m4 m5 m6 m7 m8 mF mK hFr
      · skip
        have h44 := mt (nI_leI (by omega) (by omega)).mpr h44
        refine J_aload_n dX9_ticksUntilArrival_47 rfl rfl ?_
        refine J_getfield dX9_ticksUntilArrival_48 fX9_22 mO rfl ?_
        refine J_iload_n dX9_ticksUntilArrival_51 rfl rfl ?_
        refine J_aload_n dX9_ticksUntilArrival_52 rfl rfl ?_
        refine J_getfield dX9_ticksUntilArrival_53 fX9_7 mO rfl ?_
        refine J_iload_n dX9_ticksUntilArrival_56 rfl rfl ?_
        refine K_iald (v := f k) dX9_ticksUntilArrival_57 mS (by omega) (by decide) rfl ?_
        refine K_iast dX9_ticksUntilArrival_58 m5 (by omega) (by decide) (fun w1 u1 => ?_)
        have m2 := (u1.2.1 _ (by omega)).trans m2
        have m3 := (u1.2.1 _ (by omega)).trans m3
        have m4 := (u1.2.1 _ (by omega)).trans m4
        have m5 := u1.1
        have m6 := (u1.2.1 _ (by omega)).trans m6
        have m7 := (u1.2.1 _ (by omega)).trans m7
        have m8 := (u1.2.1 _ (by omega)).trans m8
        have mF := (u1.2.1 _ (by omega)).trans mF
        have mK := (u1.2.1 _ (by omega)).trans mK
        have mO := (u1.2.1 _ (by omega)).trans mO
        have mS := (u1.2.1 _ (by omega)).trans mS
        refine J_iinc (v := nI (k + 1)) dX9_ticksUntilArrival_59 rfl (nI_succ _).symm (by decide) rfl ?_
        refine J_goto (tgt := 41) dX9_ticksUntilArrival_62 (by decide) ?_
        exact ih (k + 1) _ _ (by omega) (by omega) mO mS m2 m3 m4 m5 m6 m7 m8 mF mK (hFr.up u1 (by omega) (by omega)) (fun j hj => by
          by_cases e : j = k
          · subst e; rw [up_s]
          · rw [up_n _ _ e]; exact hrow j (by omega))
  refine J_aload_n dX9_ticksUntilArrival_0 rfl rfl ?_
  refine J_aload_n dX9_ticksUntilArrival_1 rfl rfl ?_
  refine J_iload_n dX9_ticksUntilArrival_2 rfl rfl ?_
  refine K_callV dX9_ticksUntilArrival_3 YX9_isTrain kX9_109 (rc_of mO rfl) (c_X9_isTrain mO mS hfit _) rfl rfl (Nat.le_of_ble_eq_true rfl) (by decide) ?_
  refine J_if_ne (tgt := 13) dX9_ticksUntilArrival_6 (by decide) (fun h6 => ?_) (fun h6 => ?_)
  · skip
    have e6 : (vi (sNt (gS G)) y).isSome = true := b2i_ne.mp h6
    obtain ⟨i, e6⟩ := isS_yes e6
    obtain ⟨hi, rfl⟩ := vi_some (by omega) e6
    refine J_aload_n dX9_ticksUntilArrival_13 rfl rfl ?_
    refine J_iload_n dX9_ticksUntilArrival_14 rfl rfl ?_
    refine K_callV dX9_ticksUntilArrival_15 YX9_goalOf kX9_81 (rc_of mO rfl) (c_X9_goalOf mO mS hfit (show i < sNt (gS G) by omega)) rfl rfl (Nat.le_of_ble_eq_true rfl) (by decide) ?_
    refine J_iconst (v := (-1)) dX9_ticksUntilArrival_18 (by decide) ?_
    refine J_icmp_ne (tgt := 26) dX9_ticksUntilArrival_19 (by decide) (fun h19 => ?_) (fun h19 => ?_)
    · skip
      obtain ⟨k19, e19⟩ : ∃ k_, sGo (gS G) i = some k_ := by
        cases q : sGo (gS G) i with
        | none => exact absurd ((oI_m1 (sGo_b hwf (show i < sNt (gS G) by omega))).mpr q) h19
        | some k_ => exact ⟨k_, rfl⟩
      refine J_iconst (v := nI 0) dX9_ticksUntilArrival_26 (by decide) ?_
      refine K_putI dX9_ticksUntilArrival_27 fX9_47 (Or.inl rfl) mO (Nat.le_of_ble_eq_true rfl) (fun w1 u1 => ?_)
      have m2 := (u1.2.1 _ (by omega)).trans m2
      have m3 := (u1.2.1 _ (by omega)).trans m3
      have m4 := (u1.2.1 _ (by omega)).trans m4
      have m5 := (u1.2.1 _ (by omega)).trans m5
      have m6 := (u1.2.1 _ (by omega)).trans m6
      have m7 := (u1.2.1 _ (by omega)).trans m7
      have m8 := (u1.2.1 _ (by omega)).trans m8
      have mF := (u1.2.1 _ (by omega)).trans mF
      have mK := (u1.2.1 _ (by omega)).trans mK
      have mO := u1.1
      have mS := (u1.2.1 _ (by omega)).trans mS
      have mO : w1.1 m = .inr (9, [.int (nI 0), .ref (m + 1), .ref (m + 2), .ref (m + 3), .ref (m + 4), .ref (m + 5), .int (x 6), .int (x 7), .ref (m + 6), .ref (m + 7), .ref (m + 8), .ref (m + 9), .ref (m + 10), .int (x 13), .int (x 14), .int (x 15), .int (x 16), .int (x 17), .int (x 18), .int (x 19), .int (x 20), .int (x 21)]) := mO
      refine J_aload_n dX9_ticksUntilArrival_30 rfl rfl ?_
      refine J_getfield dX9_ticksUntilArrival_31 fX9_47 mO rfl ?_
      refine J_if_le (tgt := 39) dX9_ticksUntilArrival_34 (by decide) (fun h34 => ?_) (fun h34 => absurd h34 (by decide))
      refine J_iconst (v := nI 0) dX9_ticksUntilArrival_39 (by decide) ?_
      refine J_istore_n dX9_ticksUntilArrival_40 rfl (by decide) rfl ?_
      exact copy i hi e6 k19 e19 117 0 f5 _ (by omega) (by omega) mO mS m2 m3 m4 m5 m6 m7 m8 mF mK ((Fr.rf w m (m + 11)).up u1 (by omega) (by omega)) (fun j hj => by omega)
    · skip
      have e19 : sGo (gS G) i = none := (oI_m1 (sGo_b hwf (show i < sNt (gS G) by omega))).mp h19
      refine J_iconst (v := nI 2) dX9_ticksUntilArrival_22 (by decide) ?_
      refine J_goto (tgt := 27) dX9_ticksUntilArrival_23 (by decide) ?_
      refine K_putI dX9_ticksUntilArrival_27 fX9_47 (Or.inl rfl) mO (Nat.le_of_ble_eq_true rfl) (fun w1 u1 => ?_)
      have m2 := (u1.2.1 _ (by omega)).trans m2
      have m3 := (u1.2.1 _ (by omega)).trans m3
      have m4 := (u1.2.1 _ (by omega)).trans m4
      have m5 := (u1.2.1 _ (by omega)).trans m5
      have m6 := (u1.2.1 _ (by omega)).trans m6
      have m7 := (u1.2.1 _ (by omega)).trans m7
      have m8 := (u1.2.1 _ (by omega)).trans m8
      have mF := (u1.2.1 _ (by omega)).trans mF
      have mK := (u1.2.1 _ (by omega)).trans mK
      have mO := u1.1
      have mS := (u1.2.1 _ (by omega)).trans mS
      have mO : w1.1 m = .inr (9, [.int (nI 2), .ref (m + 1), .ref (m + 2), .ref (m + 3), .ref (m + 4), .ref (m + 5), .int (x 6), .int (x 7), .ref (m + 6), .ref (m + 7), .ref (m + 8), .ref (m + 9), .ref (m + 10), .int (x 13), .int (x 14), .int (x 15), .int (x 16), .int (x 17), .int (x 18), .int (x 19), .int (x 20), .int (x 21)]) := mO
      refine J_aload_n dX9_ticksUntilArrival_30 rfl rfl ?_
      refine J_getfield dX9_ticksUntilArrival_31 fX9_47 mO rfl ?_
      refine J_if_le (tgt := 39) dX9_ticksUntilArrival_34 (by decide) (fun h34 => absurd h34 (by decide)) (fun h34 => ?_)
      refine J_iconst (v := nI 0) dX9_ticksUntilArrival_37 (by decide) ?_
      exact J_ireturn dX9_ticksUntilArrival_38 rfl rfl (GM_of (c := 5) (v := 0) (G' := G) (th := 2) (gQ_eq (qArr_no2 e6 e19)) (fun z => absurd z (by decide)) ((Fr.rf w m (m + 11)).up u1 (by omega) (by omega)) (by decide) ⟨va_up x 0 (nI 2), _, _, _, _, _, _, _, ⟨_, _, _, mO, mS, mF, mK, hfit⟩, ⟨m2, m3, m4, m5, m6, m7, m8⟩, (up_s _ _ _), ⟨((up_n _ _ (by decide)).trans x6), ((up_n _ _ (by decide)).trans x7), ((up_n _ _ (by decide)).trans x13), ((up_n _ _ (by decide)).trans x14), ((up_n _ _ (by decide)).trans x15), ((up_n _ _ (by decide)).trans x16)⟩, hRd⟩)
  · skip
    have e6 : (vi (sNt (gS G)) y).isSome = false := b2i_eq.mp h6
    have e6 := isS_no e6
    refine J_iconst (v := nI 1) dX9_ticksUntilArrival_9 (by decide) ?_
    refine J_goto (tgt := 27) dX9_ticksUntilArrival_10 (by decide) ?_
    refine K_putI dX9_ticksUntilArrival_27 fX9_47 (Or.inl rfl) mO (Nat.le_of_ble_eq_true rfl) (fun w1 u1 => ?_)
    have m2 := (u1.2.1 _ (by omega)).trans m2
    have m3 := (u1.2.1 _ (by omega)).trans m3
    have m4 := (u1.2.1 _ (by omega)).trans m4
    have m5 := (u1.2.1 _ (by omega)).trans m5
    have m6 := (u1.2.1 _ (by omega)).trans m6
    have m7 := (u1.2.1 _ (by omega)).trans m7
    have m8 := (u1.2.1 _ (by omega)).trans m8
    have mF := (u1.2.1 _ (by omega)).trans mF
    have mK := (u1.2.1 _ (by omega)).trans mK
    have mO := u1.1
    have mS := (u1.2.1 _ (by omega)).trans mS
    have mO : w1.1 m = .inr (9, [.int (nI 1), .ref (m + 1), .ref (m + 2), .ref (m + 3), .ref (m + 4), .ref (m + 5), .int (x 6), .int (x 7), .ref (m + 6), .ref (m + 7), .ref (m + 8), .ref (m + 9), .ref (m + 10), .int (x 13), .int (x 14), .int (x 15), .int (x 16), .int (x 17), .int (x 18), .int (x 19), .int (x 20), .int (x 21)]) := mO
    refine J_aload_n dX9_ticksUntilArrival_30 rfl rfl ?_
    refine J_getfield dX9_ticksUntilArrival_31 fX9_47 mO rfl ?_
    refine J_if_le (tgt := 39) dX9_ticksUntilArrival_34 (by decide) (fun h34 => absurd h34 (by decide)) (fun h34 => ?_)
    refine J_iconst (v := nI 0) dX9_ticksUntilArrival_37 (by decide) ?_
    exact J_ireturn dX9_ticksUntilArrival_38 rfl rfl (GM_of (c := 1) (v := 0) (G' := G) (th := 1) (gQ_eq (qArr_no1 e6)) (fun z => absurd z (by decide)) ((Fr.rf w m (m + 11)).up u1 (by omega) (by omega)) (by decide) ⟨va_up x 0 (nI 1), _, _, _, _, _, _, _, ⟨_, _, _, mO, mS, mF, mK, hfit⟩, ⟨m2, m3, m4, m5, m6, m7, m8⟩, (up_s _ _ _), ⟨((up_n _ _ (by decide)).trans x6), ((up_n _ _ (by decide)).trans x7), ((up_n _ _ (by decide)).trans x13), ((up_n _ _ (by decide)).trans x14), ((up_n _ _ (by decide)).trans x15), ((up_n _ _ (by decide)).trans x16)⟩, hRd⟩)

end JMREST

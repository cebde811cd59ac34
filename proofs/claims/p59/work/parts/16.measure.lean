/-! ROUTES: the two ways to measure -/
section JMEASURE
theorem opq_is {v : Nat → Nat} {st : Nat → Bool} {n m : Nat} (h : amI (am n (opq v st)) = some m) : m < n ∧ st m = false ∧ v m < 1000 ∧ ∀ b, b < n → st b = false → v m ≤ v b := by
  cases e : am n (opq v st) with
  | none => rw [e] at h; cases h
  | some p =>
    obtain ⟨i, c⟩ := p
    rw [e] at h
    cases h
    obtain ⟨h1, h2, h3, -⟩ := am_some n _ c e
    unfold opq at h2
    split at h2
    · rename_i q
      cases h2
      refine ⟨h1, q.1, q.2, fun b hb hs => ?_⟩
      show v i ≤ v b
      by_cases z : v b < 1000
      · exact h3 b hb _ (by unfold opq; rw [if_pos ⟨hs, z⟩])
      · omega
    · cases h2
theorem opq_no {v : Nat → Nat} {st : Nat → Bool} {n : Nat} (h : amI (am n (opq v st)) = none) : ∀ b, b < n → st b = false → 1000 ≤ v b := fun b hb hs => by
  cases e : am n (opq v st) with
  | some p => rw [e] at h; cases h
  | none =>
    have := am_none n e b hb
    unfold opq at this
    split at this
    · cases this
    · rename_i q
      have : ¬ v b < 1000 := fun z => q ⟨hs, z⟩
      omega
/-- the rows of a route finder -/
def RepR (w : Wd) (r : Nat) : Prop := ∃ (g1 g2 g3 : Nat → Int32), w.1 r = .inr (6, [.ref (r + 1), .ref (r + 2), .ref (r + 3)]) ∧ w.1 (r + 1) = .inl (0, 14, .inl g1) ∧ w.1 (r + 2) = .inl (0, 14, .inl g2) ∧ w.1 (r + 3) = .inl (0, 14, .inl g3)
theorem RepR.fr {w w' : Wd} {r lo hi : Nat} (h : RepR w r) (k : Fr w w' lo hi) (g : r + 4 ≤ lo ∨ hi ≤ r) : RepR w' r := by
  obtain ⟨g1, g2, g3, h0, h1, h2, h3⟩ := h
  exact ⟨g1, g2, g3, (k.1 _ (by omega)).trans h0, (k.1 _ (by omega)).trans h1, (k.1 _ (by omega)).trans h2, (k.1 _ (by omega)).trans h3⟩
theorem wf_lb {S : St} (h : WF S) : ∀ a b, sLk S a b = true → a < sNb S ∧ b < sNb S ∧ a ≠ b := fun a b e => ⟨(h.2.2.2.1 a b e).1, (h.2.2.2.1 a b e).2.1, (h.2.2.2.1 a b e).2.2.1⟩
theorem wf_mm {S : St} (h : WF S) (m : Nat) : sLk S m m = false := by
  cases e : sLk S m m with
  | false => rfl
  | true => exact absurd rfl (wf_lb h m m e).2.2
/-- row j of a finder measures the distances from s -/
def Row (w w' : Wd) (c : Nat) (S : St) (s : Nat) : Prop := Fr w w' c (c + 1) ∧ ∃ f : Nat → Int32, w'.1 c = .inl (0, 14, .inl f) ∧ ∀ b, b < sNb S → f b = nI (dF 1000 (dS S s b))
theorem c_X6_nearestOpen {w : Wd} {r n : Nat} {v : Nat → Nat} {st : Nat → Bool} {x : Int32} (hR : RepR w r) {f : Nat → Int32} (hc : w.1 (r + 1) = .inl (0, 14, .inl f)) (hn : n ≤ 14) (hf : ∀ b, b < n → f b = nI (v b)) (hv : ∀ b, b < n → v b ≤ 1000) (hx : bits x st) : MC 2 mX6_nearestOpen 0 0 [.ref r, .int (nI n), .int x] w (RI (.int (oI (amI (am n (opq v st))))) w) := by
  obtain ⟨g1, g2, g3, rO, r1, r2, r3⟩ := id hR
  have r1 := hc
  refine MC_j pnX6 rfl rfl rfl (Or.inr (fun E w h => by cases h.1)) ?_
  show J 2 mX6_nearestOpen 0 [some (.ref r), some (.int (nI n)), some (.int x), none, none, none] [] w 0 0 _
  have loop : ∀ m k, n < m + k → k ≤ n → J 2 mX6_nearestOpen 10 [some (.ref r), some (.int (nI n)), some (.int x), some (.int (oI (amI (am k (opq v st))))), some (.int (nI (amV 1000 (am k (opq v st))))), some (.int (nI k))] [] w 0 0 (RI (.int (oI (amI (am n (opq v st))))) w) := by
    intro m
    induction m with
    | zero => intros; omega
    | succ m ih =>
      intro k q1 q2
      refine J_iload dX6_nearestOpen_10 rfl ?_
      refine J_iload_n dX6_nearestOpen_12 rfl rfl ?_
      refine J_icmp_ge (tgt := 55) dX6_nearestOpen_13 (by decide) (fun h13 => ?_) (fun h13 => ?_)
      · skip
        have h13 := (nI_leI (by omega) (by omega)).mp h13
        have ek : k = n := by omega
        subst ek
        refine J_iload_n dX6_nearestOpen_55 rfl rfl ?_
        exact J_ireturn dX6_nearestOpen_56 rfl rfl ⟨rfl, rfl⟩
      · skip
        have h13 := mt (nI_leI (by omega) (by omega)).mpr h13
        have hvk := hv k (by omega)
        have hop := opq_le (v := v) (st := st) k
        refine J_iload_n dX6_nearestOpen_16 rfl rfl ?_
        refine J_iload dX6_nearestOpen_17 rfl ?_
        refine K_ishr dX6_nearestOpen_19 rfl ?_
        refine J_iconst (v := nI 1) dX6_nearestOpen_20 (by decide) ?_
        refine K_iand (v := b2i (st k)) dX6_nearestOpen_21 ((shr_bit x (by omega)).trans (congrArg b2i (hx k (by omega)))) ?_
        refine J_if_ne (tgt := 49) dX6_nearestOpen_22 (by decide) (fun h22 => ?_) (fun h22 => ?_)
        · skip
          have e22 : st k = true := b2i_ne.mp h22
          refine J_iinc (v := nI (k + 1)) dX6_nearestOpen_49 rfl (nI_succ _).symm (by decide) rfl ?_
          refine J_goto (tgt := 10) dX6_nearestOpen_52 (by decide) ?_
          have e : am (k + 1) (opq v st) = am k (opq v st) := am_s0 (by unfold opq; rw [if_neg (by simp [e22])])
          rw [← e]
          exact ih (k + 1) (by omega) (by omega)
        · skip
          have e22 : st k = false := b2i_eq.mp h22
          refine J_aload_n dX6_nearestOpen_25 rfl rfl ?_
          refine J_getfield dX6_nearestOpen_26 fX6_9 rO rfl ?_
          refine J_iload dX6_nearestOpen_29 rfl ?_
          refine K_iald (v := nI (v k)) dX6_nearestOpen_31 r1 (by omega) (by decide) (hf k (by omega)) ?_
          refine J_iload dX6_nearestOpen_32 rfl ?_
          refine J_icmp_ge (tgt := 49) dX6_nearestOpen_34 (by decide) (fun h34 => ?_) (fun h34 => ?_)
          · skip
            have h34 := (nI_leI (by omega) (by omega)).mp h34
            refine J_iinc (v := nI (k + 1)) dX6_nearestOpen_49 rfl (nI_succ _).symm (by decide) rfl ?_
            refine J_goto (tgt := 10) dX6_nearestOpen_52 (by decide) ?_
            have e : am (k + 1) (opq v st) = am k (opq v st) := by
              by_cases q : v k < 1000
              · exact am_s1 (F := 1000) (c := v k) (by unfold opq; rw [if_pos ⟨e22, q⟩]) q (by omega)
              · exact am_s0 (by unfold opq; rw [if_neg (fun z => q z.2)])
            rw [← e]
            exact ih (k + 1) (by omega) (by omega)
          · skip
            have h34 := mt (nI_leI (by omega) (by omega)).mpr h34
            refine J_iload dX6_nearestOpen_37 rfl ?_
            refine J_istore_n dX6_nearestOpen_39 rfl (by decide) rfl ?_
            refine J_aload_n dX6_nearestOpen_40 rfl rfl ?_
            refine J_getfield dX6_nearestOpen_41 fX6_9 rO rfl ?_
            refine J_iload dX6_nearestOpen_44 rfl ?_
            refine K_iald (v := nI (v k)) dX6_nearestOpen_46 r1 (by omega) (by decide) (hf k (by omega)) ?_
            refine J_istore dX6_nearestOpen_47 (by decide) rfl ?_
            refine J_iinc (v := nI (k + 1)) dX6_nearestOpen_49 rfl (nI_succ _).symm (by decide) rfl ?_
            refine J_goto (tgt := 10) dX6_nearestOpen_52 (by decide) ?_
            have e : am (k + 1) (opq v st) = some (k, v k) := am_s2 (F := 1000) (by unfold opq; rw [if_pos ⟨e22, by omega⟩]) (by omega)
            have g := ih (k + 1) (by omega) (by omega)
            rw [e] at g
            exact g
  refine J_iconst (v := (-1)) dX6_nearestOpen_0 (by decide) ?_
  refine J_istore_n dX6_nearestOpen_1 rfl (by decide) rfl ?_
  refine J_sipush (v := nI 1000) dX6_nearestOpen_2 (by decide) ?_
  refine J_istore dX6_nearestOpen_5 (by decide) rfl ?_
  refine J_iconst (v := nI 0) dX6_nearestOpen_7 (by decide) ?_
  refine J_istore dX6_nearestOpen_8 (by decide) rfl ?_
  exact loop (n + 1) 0 (by omega) (by omega)

theorem c_X6_measureByNearest {w : Wd} {r a s : Nat} {S : St} (hR : RepR w r) (hL : RepC w a S) (hd : r + 4 ≤ a ∨ a + 9 ≤ r) (hs : s < sNb S) : MC 3 mX6_measureByNearest 0 0 [.ref r, .ref a, .int (nI s)] w (RP (fun v w' => v = none ∧ Row w w' (r + 1) S s)) := by
  obtain ⟨g1, g2, g3, rO, r1, r2, r3⟩ := id hR
  have hL_ := hL
  obtain ⟨x4, x5, x6, f1, f2, f3, f4, f5, f6, f7, f8, hO, ⟨k1, k2, k3, k4, k5, k6, k7, k8⟩, ⟨bc, ba, bo⟩, hlen, hlk, htr, hwf⟩ := hL_
  have hnb := hwf.nb
  have hnt := hwf.nt
  have hO_0 := hO
  have k1_0 := k1
  have k2_0 := k2
  have k3_0 := k3
  have k4_0 := k4
  have k5_0 := k5
  have k6_0 := k6
  have k7_0 := k7
  have k8_0 := k8
  have r1_0 := r1
  have r2_0 := r2
  have r3_0 := r3
  have rO_0 := rO
  refine MC_j pnX6 rfl rfl rfl (Or.inr (fun E w h => RP_no E w h)) ?_
  show J 3 mX6_measureByNearest 0 [some (.ref r), some (.ref a), some (.int (nI s)), none, none, none, none, none] [] w 0 0 _
  have loop2 : ∀ n k w1 f v st y o5 o6 o7, sNb S < n + k → k ≤ sNb S → Fr w w1 (r + 1) (r + 2) → w1.1 (r + 1) = .inl (0, 14, .inl f) → (∀ b, b < sNb S → f b = nI (v b)) → DInv (sNb S) (sLen S) (sLk S) s v st → bits y st → cnt (sNb S) st = k → J 3 mX6_measureByNearest 39 [some (.ref r), some (.ref a), some (.int (nI s)), some (.int y), some (.int (nI k)), o5, o6, o7] [] w1 0 0 (RP (fun v w' => v = none ∧ Row w w' (r + 1) S s)) := by
    intro n
    induction n with
    | zero => intros; omega
    | succ n ih =>
      intro k w1 f v st y o5 o6 o7 q1 q2 hFr r1 hrow hD hx hcn
      have hO := (hFr.1 _ (by omega)).trans hO_0
      have k1 := (hFr.1 _ (by omega)).trans k1_0
      have k2 := (hFr.1 _ (by omega)).trans k2_0
      have k3 := (hFr.1 _ (by omega)).trans k3_0
      have k4 := (hFr.1 _ (by omega)).trans k4_0
      have k5 := (hFr.1 _ (by omega)).trans k5_0
      have k6 := (hFr.1 _ (by omega)).trans k6_0
      have k7 := (hFr.1 _ (by omega)).trans k7_0
      have k8 := (hFr.1 _ (by omega)).trans k8_0
      have r2 := (hFr.1 _ (by omega)).trans r2_0
      have r3 := (hFr.1 _ (by omega)).trans r3_0
      have rO := (hFr.1 _ (by omega)).trans rO_0
      have hv := fun b hb => hD.1.2.2 b hb
      have body : ∀ m o6 o7, k < sNb S → m < sNb S → st m = false → v m < 1000 → (∀ b, b < sNb S → st b = false → v m ≤ v b) → J 3 mX6_measureByNearest 66 [some (.ref r), some (.ref a), some (.int (nI s)), some (.int y), some (.int (nI k)), some (.int (nI m)), o6, o7] [] w1 0 0 (RP (fun v w' => v = none ∧ Row w w' (r + 1) S s)) := by
        intro m o6 o7 hkb hm hs hvm hmin
        have fin : ∀ y2 : Int32, bits y2 (va_up st m true) → ∀ o7, J 3 mX6_measureByNearest 76 [some (.ref r), some (.ref a), some (.int (nI s)), some (.int y2), some (.int (nI k)), some (.int (nI m)), some (.int (nI 0)), o7] [] w1 0 0 (RP (fun v w' => v = none ∧ Row w w' (r + 1) S s)) := by
          intro y2 hx2 o7
          have next : ∀ w2 f2 o7, Fr w w2 (r + 1) (r + 2) → w2.1 (r + 1) = .inl (0, 14, .inl f2) → (∀ b, b < sNb S → f2 b = nI (rlx (sLen S) (sLk S) v m b)) → J 3 mX6_measureByNearest 144 [some (.ref r), some (.ref a), some (.int (nI s)), some (.int y2), some (.int (nI k)), some (.int (nI m)), some (.int (nI (sNb S))), o7] [] w2 0 0 (RP (fun v w' => v = none ∧ Row w w' (r + 1) S s)) := by
            intro w2 f2 o7 hFr r1 hrow
            refine J_iinc (v := nI (k + 1)) dX6_measureByNearest_144 rfl (nI_succ _).symm (by decide) rfl ?_
            refine J_goto (tgt := 39) dX6_measureByNearest_147 (by decide) ?_
            exact ih (k + 1) _ _ _ _ _ _ _ _ (by omega) (by omega) hFr r1 hrow (dinv_step (wf_lb hwf) hD hm hs hvm hmin) hx2 (by rw [cnt_up hm hs, hcn])
          have loop3 : ∀ p j w2 f2 o7, sNb S < p + j → j ≤ sNb S → Fr w w2 (r + 1) (r + 2) → w2.1 (r + 1) = .inl (0, 14, .inl f2) → (∀ b, b < sNb S → f2 b = nI (if b < j then rlx (sLen S) (sLk S) v m b else v b)) → J 3 mX6_measureByNearest 76 [some (.ref r), some (.ref a), some (.int (nI s)), some (.int y2), some (.int (nI k)), some (.int (nI m)), some (.int (nI j)), o7] [] w2 0 0 (RP (fun v w' => v = none ∧ Row w w' (r + 1) S s)) := by
            intro p
            induction p with
            | zero => intros; omega
            | succ p ih =>
              intro j w2 f2 o7 q1 q2 hFr r1 hrow
              have hO := (hFr.1 _ (by omega)).trans hO_0
              have k1 := (hFr.1 _ (by omega)).trans k1_0
              have k2 := (hFr.1 _ (by omega)).trans k2_0
              have k3 := (hFr.1 _ (by omega)).trans k3_0
              have k4 := (hFr.1 _ (by omega)).trans k4_0
              have k5 := (hFr.1 _ (by omega)).trans k5_0
              have k6 := (hFr.1 _ (by omega)).trans k6_0
              have k7 := (hFr.1 _ (by omega)).trans k7_0
              have k8 := (hFr.1 _ (by omega)).trans k8_0
              have r2 := (hFr.1 _ (by omega)).trans r2_0
              have r3 := (hFr.1 _ (by omega)).trans r3_0
              have rO := (hFr.1 _ (by omega)).trans rO_0
              refine J_iload dX6_measureByNearest_76 rfl ?_
              refine J_aload_n dX6_measureByNearest_78 rfl rfl ?_
              refine J_getfield dX6_measureByNearest_79 fX6_21 hO rfl ?_
              refine J_icmp_ge (tgt := 144) dX6_measureByNearest_82 (by decide) (fun h82 => ?_) (fun h82 => ?_)
              · skip
                have h82 := (nI_leI (by omega) (by omega)).mp h82
                have ej : j = sNb S := by omega
                subst ej
                exact next _ _ _ hFr r1 (fun b hb => by rw [hrow b hb, if_pos hb])
              · skip
                have h82 := mt (nI_leI (by omega) (by omega)).mpr h82
                have hlj := hwf.2.1 j (by omega)
                have hvj := hv j (by omega)
                refine J_aload_n dX6_measureByNearest_85 rfl rfl ?_
                refine J_getfield dX6_measureByNearest_86 fX6_9 rO rfl ?_
                refine J_iload dX6_measureByNearest_89 rfl ?_
                refine K_iald (v := nI (v m)) dX6_measureByNearest_91 r1 (by omega) (by decide) (by rw [hrow m (by omega), rlx_self (wf_mm hwf m)]; split <;> rfl) ?_
                refine J_aload_n dX6_measureByNearest_92 rfl rfl ?_
                refine J_getfield dX6_measureByNearest_93 fX6_31 hO rfl ?_
                refine J_iload dX6_measureByNearest_96 rfl ?_
                have q98a := hwf.2.1 j (by omega)
                refine K_iald (v := nI (sLen S j)) dX6_measureByNearest_98 k1 (by omega) (by decide) (hlen _ (by omega)) ?_
                refine K_iadd (v := nI (v m + (sLen S j))) dX6_measureByNearest_99 (nI_add _ _) ?_
                refine J_istore dX6_measureByNearest_100 (by decide) rfl ?_
                refine J_aload_n dX6_measureByNearest_102 rfl rfl ?_
                refine J_getfield dX6_measureByNearest_103 fX6_34 hO rfl ?_
                refine J_iload dX6_measureByNearest_106 rfl ?_
                refine K_iald dX6_measureByNearest_108 k2 (by omega) (by decide) rfl ?_
                refine J_iload dX6_measureByNearest_109 rfl ?_
                refine K_callSN dX6_measureByNearest_111 YX8_has kX6_37 (c_has w2 (hlk _ (by omega)) (by omega)) rfl rfl (Nat.le_of_ble_eq_true rfl) (by decide) ?_
                refine J_if_eq (tgt := 138) dX6_measureByNearest_114 (by decide) (fun h114 => ?_) (fun h114 => ?_)
                · skip
                  have e114 : sLk S m j = false := b2i_eq.mp h114
                  refine J_iinc (v := nI (j + 1)) dX6_measureByNearest_138 rfl (nI_succ _).symm (by decide) rfl ?_
                  refine J_goto (tgt := 76) dX6_measureByNearest_141 (by decide) ?_
                  exact ih (j + 1) _ _ _ (by omega) (by omega) hFr r1 (fun b hb => by
                    by_cases e : b = j
                    · subst e
                      rw [hrow _ hb, if_neg (by omega), if_pos (by omega)]
                      unfold rlx
                      rw [if_neg (fun q => by rw [e114] at q; cases q.1)]
                    · rw [hrow b hb]
                      by_cases e2 : b < j
                      · rw [if_pos e2, if_pos (by omega)]
                      · rw [if_neg e2, if_neg (by omega)])
                · skip
                  have e114 : sLk S m j = true := b2i_ne.mp h114
                  refine J_iload dX6_measureByNearest_117 rfl ?_
                  refine J_aload_n dX6_measureByNearest_119 rfl rfl ?_
                  refine J_getfield dX6_measureByNearest_120 fX6_9 rO rfl ?_
                  refine J_iload dX6_measureByNearest_123 rfl ?_
                  refine K_iald (v := nI (v j)) dX6_measureByNearest_125 r1 (by omega) (by decide) (by rw [hrow j (by omega), if_neg (by omega)]) ?_
                  refine J_icmp_ge (tgt := 138) dX6_measureByNearest_126 (by decide) (fun h126 => ?_) (fun h126 => ?_)
                  · skip
                    have h126 := (nI_leI (by omega) (by omega)).mp h126
                    refine J_iinc (v := nI (j + 1)) dX6_measureByNearest_138 rfl (nI_succ _).symm (by decide) rfl ?_
                    refine J_goto (tgt := 76) dX6_measureByNearest_141 (by decide) ?_
                    exact ih (j + 1) _ _ _ (by omega) (by omega) hFr r1 (fun b hb => by
                      by_cases e : b = j
                      · subst e
                        rw [hrow _ hb, if_neg (by omega), if_pos (by omega)]
                        unfold rlx
                        rw [if_neg (fun q => by have := q.2; omega)]
                      · rw [hrow b hb]
                        by_cases e2 : b < j
                        · rw [if_pos e2, if_pos (by omega)]
                        · rw [if_neg e2, if_neg (by omega)])
                  · skip
                    have h126 := mt (nI_leI (by omega) (by omega)).mpr h126
                    refine J_aload_n dX6_measureByNearest_129 rfl rfl ?_
                    refine J_getfield dX6_measureByNearest_130 fX6_9 rO rfl ?_
                    refine J_iload dX6_measureByNearest_133 rfl ?_
                    refine J_iload dX6_measureByNearest_135 rfl ?_
                    refine K_iast dX6_measureByNearest_137 r1 (by omega) (by decide) (fun w1 u1 => ?_)
                    have hO := (u1.2.1 _ (by omega)).trans hO
                    have k1 := (u1.2.1 _ (by omega)).trans k1
                    have k2 := (u1.2.1 _ (by omega)).trans k2
                    have k3 := (u1.2.1 _ (by omega)).trans k3
                    have k4 := (u1.2.1 _ (by omega)).trans k4
                    have k5 := (u1.2.1 _ (by omega)).trans k5
                    have k6 := (u1.2.1 _ (by omega)).trans k6
                    have k7 := (u1.2.1 _ (by omega)).trans k7
                    have k8 := (u1.2.1 _ (by omega)).trans k8
                    have r1 := u1.1
                    have r2 := (u1.2.1 _ (by omega)).trans r2
                    have r3 := (u1.2.1 _ (by omega)).trans r3
                    have rO := (u1.2.1 _ (by omega)).trans rO
                    refine J_iinc (v := nI (j + 1)) dX6_measureByNearest_138 rfl (nI_succ _).symm (by decide) rfl ?_
                    refine J_goto (tgt := 76) dX6_measureByNearest_141 (by decide) ?_
                    exact ih (j + 1) _ _ _ (by omega) (by omega) (hFr.up u1 (by omega) (by omega)) r1 (fun b hb => by
                      by_cases e : b = j
                      · subst e
                        rw [up_s, if_pos (by omega)]
                        unfold rlx
                        rw [if_pos ⟨e114, by omega⟩]
                      · rw [up_n _ _ e, hrow b hb]
                        by_cases e2 : b < j
                        · rw [if_pos e2, if_pos (by omega)]
                        · rw [if_neg e2, if_neg (by omega)])
          exact loop3 (sNb S + 1) 0 w1 f o7 (by omega) (by omega) hFr r1 (fun b hb => by rw [hrow b hb, if_neg (by omega)])
        refine J_iload_n dX6_measureByNearest_66 rfl rfl ?_
        refine J_iconst (v := nI 1) dX6_measureByNearest_67 (by decide) ?_
        refine J_iload dX6_measureByNearest_68 rfl ?_
        refine K_ishl (v := ((1 : Int32) <<< (nI m &&& 31))) dX6_measureByNearest_70 rfl ?_
        refine K_ior (v := (y ||| ((1 : Int32) <<< (nI m &&& 31)))) dX6_measureByNearest_71 rfl ?_
        refine J_istore_n dX6_measureByNearest_72 rfl (by decide) rfl ?_
        refine J_iconst (v := nI 0) dX6_measureByNearest_73 (by decide) ?_
        refine J_istore dX6_measureByNearest_74 (by decide) rfl ?_
        exact fin _ (bits_set hx (by omega)) _
      refine J_iload dX6_measureByNearest_39 rfl ?_
      refine J_aload_n dX6_measureByNearest_41 rfl rfl ?_
      refine J_getfield dX6_measureByNearest_42 fX6_21 hO rfl ?_
      refine J_icmp_ge (tgt := 150) dX6_measureByNearest_45 (by decide) (fun h45 => ?_) (fun h45 => ?_)
      · skip
        have h45 := (nI_leI (by omega) (by omega)).mp h45
        
        exact J_return dX6_measureByNearest_150 rfl (RP_i ⟨rfl, hFr, _, r1, fun b hb => by rw [hrow b hb, dinv_end hnb (wf_lb hwf) hwf.2.1 hD (fun b hb e => by have := cnt_full (p := st) (n := sNb S) (by omega) b hb; rw [e] at this; cases this) b hb]; rfl⟩)
      · skip
        have h45 := mt (nI_leI (by omega) (by omega)).mpr h45
        
        refine J_aload_n dX6_measureByNearest_48 rfl rfl ?_
        refine J_aload_n dX6_measureByNearest_49 rfl rfl ?_
        refine J_getfield dX6_measureByNearest_50 fX6_21 hO rfl ?_
        refine J_iload_n dX6_measureByNearest_53 rfl rfl ?_
        refine K_callV dX6_measureByNearest_54 YX6_nearestOpen kX6_27 (rc_of rO rfl) (c_X6_nearestOpen ⟨_, _, _, rO, r1, r2, r3⟩ r1 hnb hrow (fun b hb => hD.1.2.2 b hb) hx) rfl rfl (Nat.le_of_ble_eq_true rfl) (by decide) ?_
        refine J_istore dX6_measureByNearest_57 (by decide) rfl ?_
        refine J_iload dX6_measureByNearest_59 rfl ?_
        refine J_iconst (v := (-1)) dX6_measureByNearest_61 (by decide) ?_
        refine J_icmp_ne (tgt := 66) dX6_measureByNearest_62 (by decide) (fun h62 => ?_) (fun h62 => ?_)
        · skip
          obtain ⟨k62, e62⟩ : ∃ k_, amI (am (sNb S) (opq v st)) = some k_ := by
            cases q : amI (am (sNb S) (opq v st)) with
            | none => exact absurd ((oI_m1 (fun k hk => by have := amI_b k hk; omega)).mpr q) h62
            | some k_ => exact ⟨k_, rfl⟩
          rw [e62]
          obtain ⟨hm, hs, hvm, hmin⟩ := opq_is e62
          exact body k62 _ _ (by omega) hm hs hvm hmin
        · skip
          have e62 : amI (am (sNb S) (opq v st)) = none := (oI_m1 (fun k hk => by have := amI_b k hk; omega)).mp h62
          exact J_return dX6_measureByNearest_65 rfl (RP_i ⟨rfl, hFr, _, r1, fun b hb => by rw [hrow b hb, dinv_end hnb (wf_lb hwf) hwf.2.1 hD (opq_no e62) b hb]; rfl⟩)
  have stage2 : ∀ w1 f, Fr w w1 (r + 1) (r + 2) → w1.1 (r + 1) = .inl (0, 14, .inl f) → (∀ j, j < sNb S → f j = nI (row0 s j)) → ∀ k, J 3 mX6_measureByNearest 34 [some (.ref r), some (.ref a), some (.int (nI s)), some (.int (nI k)), none, none, none, none] [] w1 0 0 (RP (fun v w' => v = none ∧ Row w w' (r + 1) S s)) := by
    intro w1 f hFr r1 hrow k
    have hO := (hFr.1 _ (by omega)).trans hO_0
    have k1 := (hFr.1 _ (by omega)).trans k1_0
    have k2 := (hFr.1 _ (by omega)).trans k2_0
    have k3 := (hFr.1 _ (by omega)).trans k3_0
    have k4 := (hFr.1 _ (by omega)).trans k4_0
    have k5 := (hFr.1 _ (by omega)).trans k5_0
    have k6 := (hFr.1 _ (by omega)).trans k6_0
    have k7 := (hFr.1 _ (by omega)).trans k7_0
    have k8 := (hFr.1 _ (by omega)).trans k8_0
    have r2 := (hFr.1 _ (by omega)).trans r2_0
    have r3 := (hFr.1 _ (by omega)).trans r3_0
    have rO := (hFr.1 _ (by omega)).trans rO_0
    refine J_iconst (v := nI 0) dX6_measureByNearest_34 (by decide) ?_
    refine J_istore_n dX6_measureByNearest_35 rfl (by decide) rfl ?_
    refine J_iconst (v := nI 0) dX6_measureByNearest_36 (by decide) ?_
    refine J_istore dX6_measureByNearest_37 (by decide) rfl ?_
    exact loop2 (sNb S + 1) 0 w1 f (row0 s) (fun _ => false) 0 none none none (by omega) (by omega) hFr r1 hrow ⟨row0_ok, fun a _ e => by cases e⟩ bits_0 (cnt_0 fun j _ => rfl)
  have loop1 : ∀ n k w1 f, sNb S < n + k → k ≤ sNb S → Fr w w1 (r + 1) (r + 2) → w1.1 (r + 1) = .inl (0, 14, .inl f) → (∀ j, j < k → f j = nI (row0 s j)) → J 3 mX6_measureByNearest 2 [some (.ref r), some (.ref a), some (.int (nI s)), some (.int (nI k)), none, none, none, none] [] w1 0 0 (RP (fun v w' => v = none ∧ Row w w' (r + 1) S s)) := by
    intro n
    induction n with
    | zero => intros; omega
    | succ n ih =>
      intro k w1 f q1 q2 hFr r1 hrow
      have hO := (hFr.1 _ (by omega)).trans hO_0
      have k1 := (hFr.1 _ (by omega)).trans k1_0
      have k2 := (hFr.1 _ (by omega)).trans k2_0
      have k3 := (hFr.1 _ (by omega)).trans k3_0
      have k4 := (hFr.1 _ (by omega)).trans k4_0
      have k5 := (hFr.1 _ (by omega)).trans k5_0
      have k6 := (hFr.1 _ (by omega)).trans k6_0
      have k7 := (hFr.1 _ (by omega)).trans k7_0
      have k8 := (hFr.1 _ (by omega)).trans k8_0
      have r2 := (hFr.1 _ (by omega)).trans r2_0
      have r3 := (hFr.1 _ (by omega)).trans r3_0
      have rO := (hFr.1 _ (by omega)).trans rO_0
      refine J_iload_n dX6_measureByNearest_2 rfl rfl ?_
      refine J_aload_n dX6_measureByNearest_3 rfl rfl ?_
      refine J_getfield dX6_measureByNearest_4 fX6_21 hO rfl ?_
      refine J_icmp_ge (tgt := 34) dX6_measureByNearest_7 (by decide) (fun h7 => ?_) (fun h7 => ?_)
      · skip
        have h7 := (nI_leI (by omega) (by omega)).mp h7
        exact stage2 _ _ hFr r1 (fun j hj => hrow j (by omega)) _
      · skip
        have h7 := mt (nI_leI (by omega) (by omega)).mpr h7
        refine J_aload_n dX6_measureByNearest_10 rfl rfl ?_
        refine J_getfield dX6_measureByNearest_11 fX6_9 rO rfl ?_
        refine J_iload_n dX6_measureByNearest_14 rfl rfl ?_
        refine J_iload_n dX6_measureByNearest_15 rfl rfl ?_
        refine J_iload_n dX6_measureByNearest_16 rfl rfl ?_
        refine J_icmp_ne (tgt := 24) dX6_measureByNearest_17 (by decide) (fun h17 => ?_) (fun h17 => ?_)
        · skip
          have h17 := mt (nI_eq (by omega) (by omega)).mpr h17
          
          refine J_sipush (v := nI 1000) dX6_measureByNearest_24 (by decide) ?_
          refine K_iast dX6_measureByNearest_27 r1 (by omega) (by decide) (fun w1 u1 => ?_)
          have hO := (u1.2.1 _ (by omega)).trans hO
          have k1 := (u1.2.1 _ (by omega)).trans k1
          have k2 := (u1.2.1 _ (by omega)).trans k2
          have k3 := (u1.2.1 _ (by omega)).trans k3
          have k4 := (u1.2.1 _ (by omega)).trans k4
          have k5 := (u1.2.1 _ (by omega)).trans k5
          have k6 := (u1.2.1 _ (by omega)).trans k6
          have k7 := (u1.2.1 _ (by omega)).trans k7
          have k8 := (u1.2.1 _ (by omega)).trans k8
          have r1 := u1.1
          have r2 := (u1.2.1 _ (by omega)).trans r2
          have r3 := (u1.2.1 _ (by omega)).trans r3
          have rO := (u1.2.1 _ (by omega)).trans rO
          refine J_iinc (v := nI (k + 1)) dX6_measureByNearest_28 rfl (nI_succ _).symm (by decide) rfl ?_
          refine J_goto (tgt := 2) dX6_measureByNearest_31 (by decide) ?_
          exact ih (k + 1) _ _ (by omega) (by omega) (hFr.up u1 (by omega) (by omega)) r1 (fun j hj => by
            by_cases e : j = k
            · subst e; rw [up_s]; unfold row0; rw [if_neg (by omega)]
            · rw [up_n _ _ e]; exact hrow j (by omega))
        · skip
          have h17 := (nI_eq (by omega) (by omega)).mp h17
          
          refine J_iconst (v := nI 0) dX6_measureByNearest_20 (by decide) ?_
          refine J_goto (tgt := 27) dX6_measureByNearest_21 (by decide) ?_
          refine K_iast dX6_measureByNearest_27 r1 (by omega) (by decide) (fun w1 u1 => ?_)
          have hO := (u1.2.1 _ (by omega)).trans hO
          have k1 := (u1.2.1 _ (by omega)).trans k1
          have k2 := (u1.2.1 _ (by omega)).trans k2
          have k3 := (u1.2.1 _ (by omega)).trans k3
          have k4 := (u1.2.1 _ (by omega)).trans k4
          have k5 := (u1.2.1 _ (by omega)).trans k5
          have k6 := (u1.2.1 _ (by omega)).trans k6
          have k7 := (u1.2.1 _ (by omega)).trans k7
          have k8 := (u1.2.1 _ (by omega)).trans k8
          have r1 := u1.1
          have r2 := (u1.2.1 _ (by omega)).trans r2
          have r3 := (u1.2.1 _ (by omega)).trans r3
          have rO := (u1.2.1 _ (by omega)).trans rO
          refine J_iinc (v := nI (k + 1)) dX6_measureByNearest_28 rfl (nI_succ _).symm (by decide) rfl ?_
          refine J_goto (tgt := 2) dX6_measureByNearest_31 (by decide) ?_
          exact ih (k + 1) _ _ (by omega) (by omega) (hFr.up u1 (by omega) (by omega)) r1 (fun j hj => by
            by_cases e : j = k
            · subst e; rw [up_s]; unfold row0; rw [if_pos (by omega)]
            · rw [up_n _ _ e]; exact hrow j (by omega))
  refine J_iconst (v := nI 0) dX6_measureByNearest_0 (by decide) ?_
  refine J_istore_n dX6_measureByNearest_1 rfl (by decide) rfl ?_
  exact loop1 (sNb S + 1) 0 w g1 (by omega) (by omega) (Fr.rf _ _ _) r1 (fun j hj => by omega)

end JMEASURE

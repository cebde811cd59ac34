/-! THE LAW: runs; what an operation of the law leaves -/
section JRUNS
theorem nI_n74 {k : Nat} (hk : k < 2 ^ 31) : ¬ nI k ≤ (-74 : Int32) := by
  intro h
  have h1 := (nI_le' hk).mp h
  have h2 : (-74 : Int32).toInt = -74 := by decide
  rw [h2] at h1
  omega
theorem cdn_74 (c : Nat) : cdn c ≤ (-74 : Int32) := by
  unfold cdn
  split <;> decide
/-- the railway behind an operation: refused, or one change on -/
def DP (G G' : Gme) (K : Nat) (v : Int32) : Prop := ∃ G2 : Gme, G2.1 = G.1 ∧ G2.2.1 = G.2.1 ∧ ((v ≤ (-74 : Int32) ∧ G' = G2) ∨ (¬ v ≤ (-74 : Int32) ∧ ∃ S', G' = gPush G2 S' ∧ WG S' (K + 18300)))
theorem mut_dp {G : Gme} {R : Rs} {K : Nat} (hR : ROK (gS G) R) (hw : WG R.2.2 (K + 18300)) : DP G (gMut G R).2.2 K (lvR (gMut G R)) := by
  unfold gMut lvR
  by_cases h : R.1 = 0
  · rw [if_pos h]
    obtain ⟨k, hk, e⟩ := hR.2.2 h
    refine ⟨G, rfl, rfl, Or.inr ⟨?_, R.2.2, rfl, hw⟩⟩
    show ¬ (if (0 : Nat) = 0 then R.2.1 else cdn 0) ≤ _
    rw [if_pos rfl, e]
    exact nI_n74 hk
  · rw [if_neg h]
    refine ⟨G, rfl, rfl, Or.inl ⟨?_, rfl⟩⟩
    show (if R.1 = 0 then (0 : Int32) else cdn R.1) ≤ _
    rw [if_neg h]
    exact cdn_74 _
theorem ex_dp {G G1 : Gme} {K : Nat} (h1 : G1.1 = G.1) (h2 : G1.2.1 = G.2.1) (hw : WG (gS G) K) : DP G (gExec G1).2.2 K (lvR (gExec G1)) := by
  have hw1 : WG (gS G1) K := by unfold gS at *; rw [h1]; exact hw
  have hlen := pAll_len (t := gT G1) (n := gN G1) 61 0
  have hrun := wg_run (cs := (pAll (gT G1) (gN G1) 61 0).1) (k := 0) hw1
  unfold gExec lvR
  cases e1 : (pAll (gT G1) (gN G1) 61 0).2 with
  | some q => exact ⟨(G1.1, G1.2.1, gO G1, (gT G1, 0), (some q, gF G1)), h1, h2, Or.inl ⟨cdn_74 2, rfl⟩⟩
  | none =>
    obtain ⟨o, S', e2⟩ : ∃ o S', runC (pAll (gT G1) (gN G1) 61 0).1 0 (gS G1) = (o, S') := ⟨_, _, rfl⟩
    rw [e2] at hrun
    cases o with
    | some k =>
      simp only [e2]
      exact ⟨(G1.1, G1.2.1, gO G1, (gT G1, 0), (gE G1, some k)), h1, h2, Or.inl ⟨cdn_74 4, rfl⟩⟩
    | none =>
      simp only [e2]
      exact ⟨gN0 G1, h1, h2, Or.inr ⟨nI_n74 (by omega), S', rfl, hrun.mono (by omega)⟩⟩
theorem fd_1 (G : Gme) (c : Nat) : (gFeed G c).2.2.1 = G.1 ∧ (gFeed G c).2.2.2.1 = G.2.1 := by
  unfold gFeed
  split <;> exact ⟨rfl, rfl⟩
def DQ (w : Wd) (x : Nat) (G : Gme) (K : Nat) : Po := RP (fun r w' => ∃ G' v, r = some (.int v) ∧ KP w w' x ∧ RepX w' x G' ∧ DP G G' K v)
set_option maxRecDepth 100000 in
theorem c_L_runs {w : Wd} {x s v n K : Nat} {G : Gme} {g : Nat → Int32} (hX : RepX w x G) (hw : WG (gS G) K) (h1 : ∃ y z, w.1 s = .inr (0, [.ref v, .int 0, y, z])) (h2 : w.1 v = .inl (3, n, .inl g)) (h3 : BSrc w v n g) (hs : x + 126 ≤ s) (hv : x + 126 ≤ v) (hn : n ≤ 16) : MC 17 mL_runs 17 102 [.ref x, .ref s] w (DQ w x G K) := by
  refine MC_of pnL rfl (fun v hv => by simp only [List.mem_cons, List.not_mem_nil, or_false] at hv; rcases hv with rfl | rfl <;> rfl) (Nat.le_of_ble_eq_true rfl) (Or.inr (fun E w h => RP_no E w h)) ?_
  show J 17 mL_runs 0 [some (.ref x), some (.ref s), none, none] [] w 17 102 _
  obtain ⟨y, z, h1⟩ := h1
  have loop : ∀ m w1 (G1 : Gme) k (o : Option Value), k + m = n → G1.1 = G.1 → G1.2.1 = G.2.1 → KP w w1 x → RepX w1 x G1 → J 17 mL_runs 2 [some (.ref x), some (.ref s), some (.int (nI k)), o] [] w1 (m + 1) (6 * (m + 1)) (DQ w x G K) := by
    intro m
    induction m with
    | zero =>
      intro w1 G1 k o hk g1 g2 kp hX
      have hV : VStr w1 s v n g := ⟨⟨Or.inl (kp.at h2 (Or.inr hv) nd_l), h3.2⟩, Or.inr ⟨y, z, kp.at h1 (Or.inr hs) nd_r0⟩⟩
      refine J.widen (kb' := 0 + 1) (sb' := 0 + 6) (by omega) (by omega) ?_
      refine J_iload_n dL_runs_2 rfl rfl ?_
      refine J_aload_n dL_runs_3 rfl rfl ?_
      refine K_tV (kb := 0 + 1) (sb := 0 + 6) dL_runs_4 YJ0_length_8abf5 kL_172 hV.rc (t_length hV) rfl rfl (Nat.le_of_ble_eq_true rfl) (by decide) (fun r2 w2 q2 => ?_)
      obtain ⟨rfl, rfl⟩ := q2
      refine J_icmp_ge (tgt := 26) dL_runs_7 (by decide) (fun h => ?_) (fun h => absurd ((nI_leI (by omega) (by omega)).mpr (by omega)) h)
      refine J_aload_n dL_runs_26 rfl rfl ?_
      refine K_sch (kb := 0) (sb := 0) dL_runs_27 rfl YL_execute kL_182 (c_L_execute hX) rfl rfl (Nat.le_of_ble_eq_true rfl) (by decide) (fun r3 w3 q3 => ?_)
      obtain ⟨rfl, k3, hX⟩ := q3
      exact J_ireturn dL_runs_30 rfl rfl (RP_i ⟨_, _, rfl, kp.tr k3, hX, ex_dp g1 g2 hw⟩)
    | succ m ih =>
      intro w1 G1 k o hk g1 g2 kp hX
      have hV : VStr w1 s v n g := ⟨⟨Or.inl (kp.at h2 (Or.inr hv) nd_l), h3.2⟩, Or.inr ⟨y, z, kp.at h1 (Or.inr hs) nd_r0⟩⟩
      refine J.widen (kb' := (m + 1) + 1) (sb' := 6 * (m + 1) + 6) (by omega) (by omega) ?_
      refine J_iload_n dL_runs_2 rfl rfl ?_
      refine J_aload_n dL_runs_3 rfl rfl ?_
      refine K_tV (kb := m + 1 + 1) (sb := 6 * (m + 1) + 6) dL_runs_4 YJ0_length_8abf5 kL_172 hV.rc (t_length hV) rfl rfl (Nat.le_of_ble_eq_true rfl) (by decide) (fun r2 w2 q2 => ?_)
      obtain ⟨rfl, rfl⟩ := q2
      refine J_icmp_ge (tgt := 26) dL_runs_7 (by decide) (fun h => absurd ((nI_leI (by omega) (by omega)).mp h) (by omega)) (fun h => ?_)
      refine J_aload_n dL_runs_10 rfl rfl ?_
      refine J_aload_n dL_runs_11 rfl rfl ?_
      refine J_iload_n dL_runs_12 rfl rfl ?_
      refine K_tV (kb := m + 1 + 1) (sb := 6 * (m + 1) + 6) dL_runs_13 YJ0_charAt_5068e kL_176 hV.rc (t_charAt hV (k := k) (by omega)) rfl rfl (Nat.le_of_ble_eq_true rfl) (by decide) (fun r3 w3 q3 => ?_)
      obtain ⟨rfl, c, hc, rfl⟩ := q3
      refine K_sch (kb := m + 1) (sb := 6 * (m + 1)) dL_runs_16 rfl YL_feed kL_179 (c_L_feed hX (by omega)) rfl rfl (Nat.le_of_ble_eq_true rfl) (by decide) (fun r4 w4 q4 => ?_)
      obtain ⟨rfl, k4, hX⟩ := q4
      refine J_istore_n dL_runs_19 rfl (by decide) rfl ?_
      refine J_iinc (v := nI (k + 1)) dL_runs_20 rfl (nI_succ _).symm (by decide) rfl ?_
      refine J_goto (tgt := 2) dL_runs_23 (by decide) ?_
      exact ih _ _ _ _ (by omega) ((fd_1 _ _).1.trans g1) ((fd_1 _ _).2.trans g2) (kp.tr k4) hX
  refine J.widen (kb' := n + 1) (sb' := 6 * (n + 1)) (by omega) (by omega) ?_
  refine J_iconst (v := nI 0) dL_runs_0 (by decide) ?_
  refine J_istore_n dL_runs_1 rfl (by decide) rfl ?_
  exact loop n w G 0 none (by omega) rfl rfl (KP.rf _ _) hX
end JRUNS

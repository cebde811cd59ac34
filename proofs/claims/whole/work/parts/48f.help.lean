/-! THE LAW: its helpers -/
section JHELP
/-- what a helper with a double leaves -/
def LPd (w : Wd) (x o n : Nat) (t : UInt64) (G : Gme) : Po := RP (fun v w' => v = some (.int (nI (if n = 0 then 1 else 0))) ∧ (∀ b : Nat, b ≠ o → (b < x ∨ x + 126 ≤ b) → w'.1 b = w.1 b) ∧ w'.2.1 = w.2.1 ∧ RepX w' x G ∧ ∃ g : Nat → UInt64, w'.1 o = .inl (3, 1, .inr (.inr (.inr (.inl g)))) ∧ (n ≠ 0 → g 0 = t))
theorem LPd_ok {w w1 w' : Wd} {x o n : Nat} {t : UInt64} {G : Gme} {g : Nat → UInt64} (f : Fr w w1 x (x + 126)) (hX : RepX w1 x G) (e : n ≠ 0) (ho : o < x ∨ x + 126 ≤ o) (u : Up w1 w' o (.inl (3, 1, .inr (.inr (.inr (.inl (va_up g 0 t))))))) : LPd w x o n t G (.inl (some (.int (nI 0)))) w' :=
  RP_i ⟨by rw [if_neg e], fun b hb hb2 => (u.2.1 b hb).trans (f.1 b hb2), (congrArg Prod.fst u.2.2).trans f.2, hX.kp (fun b h1 h2 => u.2.1 b (by omega)), _, u.1, fun _ => up_s _ _ _⟩
theorem LPd_no {w w1 : Wd} {x o n : Nat} {t : UInt64} {G : Gme} {g : Nat → UInt64} (f : Fr w w1 x (x + 126)) (hX : RepX w1 x G) (e : n = 0) (hO : w.1 o = .inl (3, 1, .inr (.inr (.inr (.inl g))))) (ho : o < x ∨ x + 126 ≤ o) : LPd w x o n t G (.inl (some (.int (nI 1)))) w1 :=
  RP_i ⟨by rw [if_pos e], fun b hb hb2 => f.1 b hb2, f.2, hX, g, (f.1 _ ho).trans hO, fun z => absurd e z⟩
theorem c_L_meanWaits {w : Wd} {x o : Nat} {G : Gme} {g0 : Nat → UInt64} (hX : RepX w x G) (hO : w.1 o = .inl (3, 1, .inr (.inr (.inr (.inl g0))))) (ho : o < x ∨ x + 126 ≤ o) : MC 7 mL_meanWaits 1 6 [.ref x, .ref o] w (LPd w x o (sNt (gS G)) (gMean (gS G)) G) := by
  refine MC_ofH pnL rfl (fun v hv => by simp only [List.mem_cons, List.not_mem_nil, or_false] at hv; rcases hv with rfl | rfl <;> rfl) (Nat.le_of_ble_eq_true rfl) (fun E w h => RP_no E w h) ?_
  show J 7 mL_meanWaits 0 [some (.ref x), some (.ref o), none] [] w 1 6 _
  refine J_aload_n dL_meanWaits_0 rfl rfl ?_
  refine J_iconst (v := nI 0) dL_meanWaits_1 (by decide) ?_
  refine J_aload_n dL_meanWaits_2 rfl rfl ?_
  refine J_callV (mi := mL_meanWaits) (pc := 3) (kb := 0) (sb := 0) dL_meanWaits_3 YX8_meanWaits kL_126 hX.rc (c_X8_meanWaits hX) rfl rfl (Nat.le_of_ble_eq_true rfl) (by decide) (fun v w1 q => ?_) (fun E w1 q => ?_)
  · obtain ⟨hF, hX1, ⟨e, z⟩ | ⟨e, z⟩⟩ := q
    · cases z
    · cases z
      have hO1 := (hF.1 _ ho).trans hO
      skip
      refine K_dast dL_meanWaits_6 hO1 (by decide) (by decide) (fun w2 u => ?_)
      refine J_goto (tgt := 13) dL_meanWaits_7 (by decide) ?_
      refine J_iconst (v := nI 0) dL_meanWaits_13 (by decide) ?_
      exact J_ireturn dL_meanWaits_14 rfl rfl (LPd_ok hF hX1 e ho u)
  · obtain ⟨hF, hX1, ⟨e, z⟩ | ⟨e, z⟩⟩ := q
    · cases z
      refine JX_catch (i := 2) (pre := []) (x := ⟨0, 7, 10, 130⟩) (suf := []) rfl (fun y hy => by cases hy) rfl (by decide) clL_130 (OL_in (T4 (List.mem_of_getElem? (i := 235) rfl)) rfl) (Or.inl ⟨dL_meanWaits_10, rfl, 1, rfl, ?_⟩) (by decide) rfl
      refine J_iconst (v := nI 1) dL_meanWaits_11 (by decide) ?_
      exact J_ireturn dL_meanWaits_12 rfl rfl (LPd_no hF hX1 e hO ho)
    · cases z

theorem c_L_occupiedFraction {w : Wd} {x o : Nat} {G : Gme} {g0 : Nat → UInt64} (hX : RepX w x G) (hO : w.1 o = .inl (3, 1, .inr (.inr (.inr (.inl g0))))) (ho : o < x ∨ x + 126 ≤ o) : MC 7 mL_occupiedFraction 1 6 [.ref x, .ref o] w (LPd w x o (sNb (gS G)) (FP.f2d (gOcc (gS G))) G) := by
  refine MC_ofH pnL rfl (fun v hv => by simp only [List.mem_cons, List.not_mem_nil, or_false] at hv; rcases hv with rfl | rfl <;> rfl) (Nat.le_of_ble_eq_true rfl) (fun E w h => RP_no E w h) ?_
  show J 7 mL_occupiedFraction 0 [some (.ref x), some (.ref o), none] [] w 1 6 _
  refine J_aload_n dL_occupiedFraction_0 rfl rfl ?_
  refine J_iconst (v := nI 0) dL_occupiedFraction_1 (by decide) ?_
  refine J_aload_n dL_occupiedFraction_2 rfl rfl ?_
  refine J_callV (mi := mL_occupiedFraction) (pc := 3) (kb := 0) (sb := 0) dL_occupiedFraction_3 YX8_occupiedFraction kL_132 hX.rc (c_X8_occupiedFraction hX) rfl rfl (Nat.le_of_ble_eq_true rfl) (by decide) (fun v w1 q => ?_) (fun E w1 q => ?_)
  · obtain ⟨hF, hX1, ⟨e, z⟩ | ⟨e, z⟩⟩ := q
    · cases z
    · cases z
      have hO1 := (hF.1 _ ho).trans hO
      refine J_f2d dL_occupiedFraction_6 ((occ_n hX1.2.1.wf e).2) ?_
      refine K_dast dL_occupiedFraction_7 hO1 (by decide) (by decide) (fun w2 u => ?_)
      refine J_goto (tgt := 14) dL_occupiedFraction_8 (by decide) ?_
      refine J_iconst (v := nI 0) dL_occupiedFraction_14 (by decide) ?_
      exact J_ireturn dL_occupiedFraction_15 rfl rfl (LPd_ok hF hX1 e ho u)
  · obtain ⟨hF, hX1, ⟨e, z⟩ | ⟨e, z⟩⟩ := q
    · cases z
      refine JX_catch (i := 2) (pre := []) (x := ⟨0, 8, 11, 130⟩) (suf := []) rfl (fun y hy => by cases hy) rfl (by decide) clL_130 (OL_in (T4 (List.mem_of_getElem? (i := 235) rfl)) rfl) (Or.inl ⟨dL_occupiedFraction_11, rfl, 1, rfl, ?_⟩) (by decide) rfl
      refine J_iconst (v := nI 1) dL_occupiedFraction_12 (by decide) ?_
      exact J_ireturn dL_occupiedFraction_13 rfl rfl (LPd_no hF hX1 e hO ho)
    · cases z

end JHELP

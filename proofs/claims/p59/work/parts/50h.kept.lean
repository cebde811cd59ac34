/-! THE LAW: isKept -/
section JKPT
theorem lgc_eq {a b : Int64} (h : a = b) : lg_cmp a b = 0 := (lg_cmp_eq a b).mpr h
/-- the sums that the law keeps fit the layouts that can be undone -/
def KInv (G : Gme) (f : Nat → Int64) (made : Nat) : Prop := gC G = min 8 made ∧ f made = sumS (gS G) ∧ ∀ j, j < gC G → f (made - gC G + j) = sumS (gP G j)
theorem KInv.push {G : Gme} {f : Nat → Int64} {made : Nat} (h : KInv G f made) (S : St) : KInv (gPush G S) (va_up f (made + 1) (sumS S)) (made + 1) := by
  obtain ⟨h1, h2, h3⟩ := h
  have hc : gC (gPush G S) = pushN (gC G) := rfl
  have hp : gP (gPush G S) = pushP (gP G) (gC G) (gS G) := rfl
  have hs : gS (gPush G S) = S := rfl
  refine ⟨?_, ?_, fun j hj => ?_⟩
  · rw [hc]
    unfold pushN
    split <;> omega
  · rw [up_s, hs]
  · rw [hc] at hj ⊢
    rw [hp]
    unfold pushN at hj ⊢
    unfold pushP
    by_cases e : gC G = 8
    · rw [if_pos e] at hj ⊢
      rw [if_pos e, up_n _ _ (by omega)]
      by_cases e7 : j = 7
      · rw [if_pos e7, show made + 1 - 8 + j = made by omega]
        exact h2
      · rw [if_neg e7, ← h3 (j + 1) (by omega), e]
        congr 1
        omega
    · rw [if_neg e] at hj ⊢
      rw [if_neg e, up_n _ _ (by omega)]
      by_cases ej : j = gC G
      · rw [ej, up_s, show made + 1 - (gC G + 1) + gC G = made by omega]
        exact h2
      · rw [up_n _ _ ej, ← h3 j (by omega)]
        congr 1
        omega
theorem lv_und {G : Gme} {n : Nat} (h : gC G = n + 1) : gUndo G = (0, nI n, ((gP G n, gV G, gH G), (gP G, n), G.2.2)) := by unfold gUndo; rw [h, if_neg (by omega)]; rfl
theorem lv_und0 {G : Gme} (h : gC G = 0) : gUndo G = (3, 0, G) := by unfold gUndo; rw [if_pos h]
abbrev OQ9 : Po := RP (fun r _ => r = some (.int (nI 1)))
set_option maxRecDepth 100000 in
theorem c_L_isKept {w : Wd} {x a made : Nat} {G : Gme} {f : Nat → Int64} (hX : RepX w x G) (hA : w.1 a = .inl (2, 80, .inr (.inl f))) (ha : a < x ∨ x + 126 ≤ a) (hI : KInv G f made) (hm : made < 80) : MC 52 mL_isKept 4500 27000 [.ref x, .ref a, .int (nI made)] w OQ9 := by
  refine MC_of pnL rfl (fun v hv => by simp only [List.mem_cons, List.not_mem_nil, or_false] at hv; rcases hv with rfl | rfl | rfl <;> rfl) (Nat.le_of_ble_eq_true rfl) (Or.inr (fun E w h => RP_no E w h)) ?_
  show J 52 mL_isKept 0 [some (.ref x), some (.ref a), some (.int (nI made)), none, none, none] [] w 4500 27000 _
  have hnb := hX.wf.nb
  obtain ⟨i1, i2, i3⟩ := hI
  generalize hnb9 : sNb (gS G) = nb at hnb
  have loop : ∀ n w1 (G' : Gme) (y : Int32), gC G' = n → gP G' = gP G → gV G' = gS G → gH G' = true → (0 < n → y = nI (made - gC G + n - 1)) → n ≤ gC G → w1.1 a = .inl (2, 80, .inr (.inl f)) → RepX w1 x G' → J 52 mL_isKept 29 [some (.ref x), some (.ref a), some (.int (nI made)), some (.int (nI nb)), some (.int (nI n)), some (.int (y))] [] w1 (402 * n + 410) (6 * (402 * n + 410)) OQ9 := by
    intro n
    induction n with
    | zero =>
      intro w1 G' y g1 g2 g3 g4 hy hn hA hX
      refine J.widen (kb' := 0 + 403) (sb' := 6 * 0 + 2418) (by omega) (by omega) ?_
      refine J_iload dL_isKept_29 rfl ?_
      refine J_if_le (tgt := 66) dL_isKept_31 (by decide) (fun h31 => ?_) (fun h => absurd h (fun q => q (by decide)))
      have hu0 := lv_und0 g1
      refine J_aload_n dL_isKept_66 rfl rfl ?_
      refine K_h (v := (-79)) (kb := 0 + 402) (sb := 6 * (0) + 2412) dL_isKept_67 rfl YL_undo kL_369 (c_L_undo hX) (by rw [hu0]; rfl) rfl rfl (Nat.le_of_ble_eq_true rfl) (by decide) (fun w11 k11 hX => ?_)
      have hA := k11.at hA ha nd_l
      refine J_bipush (v := (-79)) dL_isKept_70 (by decide) ?_
      refine J_icmp_ne (tgt := 107) dL_isKept_72 (by decide) (fun h => absurd h (by decide)) (fun h72 => ?_)
      rw [hu0] at hX
      have hX : RepX _ x G' := hX
      have hr0 : gRest G' = (0, nI (sNb (gV G')), ((gV G', gV G', gH G'), (gP G', 0), G'.2.2)) := by unfold gRest; rw [if_pos g4]
      refine J_aload_n dL_isKept_75 rfl rfl ?_
      refine K_h (v := nI nb) (kb := 0 + 401) (sb := 6 * (0) + 2406) dL_isKept_76 rfl YL_restore kL_371 (c_L_restore hX) (by rw [hr0, g3]; exact congrArg nI hnb9) rfl rfl (Nat.le_of_ble_eq_true rfl) (by decide) (fun w12 k12 hX => ?_)
      have hA := k12.at hA ha nd_l
      refine J_iload_n dL_isKept_79 rfl rfl ?_
      refine J_icmp_ne (tgt := 107) dL_isKept_80 (by decide) (fun h => absurd ((nI_eq (by omega) (by omega)).mpr (by omega)) h) (fun h80 => ?_)
      rw [hr0] at hX
      have hs0 : gS ((gV G', gV G', gH G'), (gP G', 0), G'.2.2) = gS G := g3
      refine J_aload_n dL_isKept_83 rfl rfl ?_
      refine K_sc (kb := 0 + 1) (sb := 6 * (0) + 6) dL_isKept_84 YL_sum kL_189 (c_L_sum hX) rfl rfl (Nat.le_of_ble_eq_true rfl) (by decide) (fun r84 w84 q84 => ?_)
      obtain ⟨rfl, k9, hX⟩ := q84
      have hA := k9.at hA ha nd_l
      refine J_aload_n dL_isKept_87 rfl rfl ?_
      refine J_iload_n dL_isKept_88 rfl rfl ?_
      refine K_lald (v := sumS (gS G)) dL_isKept_89 hA (by omega) (by decide) i2 ?_
      refine J_lcmp dL_isKept_90 ?_
      refine J_if_ne (tgt := 107) dL_isKept_91 (by decide) (fun h => absurd h (fun q => q (lgc_eq (by rw [← hs0])))) (fun h91 => ?_)
      refine J_aload_n dL_isKept_94 rfl rfl ?_
      refine K_h (v := (-79)) (kb := 0 + 0) (sb := 6 * (0) + 0) dL_isKept_95 rfl YL_undo kL_369 (c_L_undo hX) (by rw [lv_und0 rfl]; rfl) rfl rfl (Nat.le_of_ble_eq_true rfl) (by decide) (fun w13 k13 hX => ?_)
      have hA := k13.at hA ha nd_l
      refine J_bipush (v := (-79)) dL_isKept_98 (by decide) ?_
      refine J_icmp_ne (tgt := 107) dL_isKept_100 (by decide) (fun h => absurd h (by decide)) (fun h100 => ?_)
      refine J_iconst (v := nI 1) dL_isKept_103 (by decide) ?_
      refine J_goto (tgt := 108) dL_isKept_104 (by decide) ?_
      exact J_ireturn dL_isKept_108 rfl narB1 (RP_i rfl)
    | succ n ih =>
      intro w1 G' y g1 g2 g3 g4 hy hn hA hX
      have hy := hy (by omega)
      subst hy
      have hu := lv_und g1
      refine J.widen (kb' := (402 * n + 410) + 401) (sb' := 6 * (402 * n + 410) + 2406) (by omega) (by omega) ?_
      refine J_iload dL_isKept_29 rfl ?_
      refine J_if_le (tgt := 66) dL_isKept_31 (by decide) (fun h => absurd h (fun q => absurd ((nI_leI (b := 0) (by omega) (by omega)).mp q) (by omega))) (fun h31 => ?_)
      refine J_iinc (v := nI n) dL_isKept_34 rfl (by rw [show Int32.ofInt (-1) = -1 from rfl, nI_dec (by omega)]; rfl) (by decide) rfl ?_
      refine J_aload_n dL_isKept_37 rfl rfl ?_
      refine K_h (v := nI n) (kb := 402 * n + 410 + 400) (sb := 6 * (402 * n + 410) + 2400) dL_isKept_38 rfl YL_undo kL_369 (c_L_undo hX) (by rw [hu]; rfl) rfl rfl (Nat.le_of_ble_eq_true rfl) (by decide) (fun w11 k11 hX => ?_)
      have hA := k11.at hA ha nd_l
      refine J_iload dL_isKept_41 rfl ?_
      refine J_icmp_ne (tgt := 58) dL_isKept_43 (by decide) (fun h => absurd ((nI_eq (by omega) (by omega)).mpr (by omega)) h) (fun h43 => ?_)
      rw [hu] at hX
      refine J_aload_n dL_isKept_46 rfl rfl ?_
      refine K_sc (kb := 402 * n + 410 + 0) (sb := 6 * (402 * n + 410) + 0) dL_isKept_47 YL_sum kL_189 (c_L_sum hX) rfl rfl (Nat.le_of_ble_eq_true rfl) (by decide) (fun r47 w47 q47 => ?_)
      obtain ⟨rfl, k9, hX⟩ := q47
      have hA := k9.at hA ha nd_l
      refine J_aload_n dL_isKept_50 rfl rfl ?_
      refine J_iload dL_isKept_51 rfl ?_
      refine K_lald (v := sumS (gP G n)) dL_isKept_53 hA (by omega) (by decide) (by rw [show made - gC G + (n + 1) - 1 = made - gC G + n by omega]; exact i3 n (by omega)) ?_
      refine J_lcmp dL_isKept_54 ?_
      refine J_if_eq (tgt := 60) dL_isKept_55 (by decide) (fun h55 => ?_) (fun h => absurd h (fun q => q (lgc_eq (by rw [← g2]; rfl))))
      refine J_iinc (v := nI (made - gC G + (n + 1) - 1) + (-1)) dL_isKept_60 rfl rfl (by decide) rfl ?_
      refine J_goto (tgt := 29) dL_isKept_63 (by decide) ?_
      exact J.widen (by omega) (by omega) (ih _ ((gP G' n, gV G', gH G'), (gP G', n), G'.2.2) _ rfl g2 g3 g4 (fun h => by
        rw [nI_dec (by omega)]
        exact congrArg nI (by omega)) (by omega) hA hX)
  refine J.widen (kb' := (402 * (gC G) + 410) + 2) (sb' := 6 * (402 * (gC G) + 410) + 12) (by omega) (by omega) ?_
  refine J_aload_n dL_isKept_0 rfl rfl ?_
  refine J_callV (kb := (402 * (gC G) + 410) + 1) (sb := 6 * (402 * (gC G) + 410) + 6) dL_isKept_1 YX8_save kL_361 hX.rc (c_X8_save hX) rfl rfl (Nat.le_of_ble_eq_true rfl) (by decide) (fun r w1 q => ?_) (fun E w1 q => absurd q (fun h => h.2.2.elim (fun z => by cases z.2) (fun z => z.1 rfl)))
  obtain ⟨fr, hX, ⟨-, e⟩ | ⟨e, -⟩⟩ := q
  rotate_left
  · exact absurd rfl e
  cases e
  have hA := (fr.1 _ ha).trans hA
  have hX : RepX w1 x ((gS G, gS G, true), G.2) := hX
  rw [show (gSave G).2.1 = nI nb from congrArg nI hnb9]
  refine J_istore_n dL_isKept_4 rfl (by decide) rfl ?_
  refine J_bipush (v := nI 8) dL_isKept_5 (by decide) ?_
  refine J_iload_n dL_isKept_7 rfl rfl ?_
  refine J_min (v := nI (gC G)) dL_isKept_8 kL_364 wMath wMin (Nat.le_of_ble_eq_true rfl) (by decide) (by
    rw [i1]
    by_cases e : made < 8
    · rw [if_pos (nI_lt e (by omega)), show min 8 made = made by omega]
    · rw [if_neg (nI_nlt (by omega) (by omega)), show min 8 made = 8 by omega]) ?_
  refine J_istore dL_isKept_11 (by decide) rfl ?_
  refine J_aload_n dL_isKept_13 rfl rfl ?_
  refine K_hV (v := nI (gC G)) (kb := 402 * (gC G) + 410) (sb := 6 * (402 * (gC G) + 410)) dL_isKept_14 YX8_undoCount kL_193 hX.rc (c_X8_undoCount hX) rfl rfl rfl (Nat.le_of_ble_eq_true rfl) (by decide) (fun w2 k2 hX => ?_)
  have hA := k2.at hA ha nd_l
  refine J_iload dL_isKept_17 rfl ?_
  refine J_icmp_eq (tgt := 24) dL_isKept_19 (by decide) (fun _ => ?_) (fun h => absurd rfl h)
  refine J_iload_n dL_isKept_24 rfl rfl ?_
  refine J_iconst (v := nI 1) dL_isKept_25 (by decide) ?_
  refine K_isub (v := nI made - nI 1) dL_isKept_26 rfl ?_
  refine J_istore dL_isKept_27 (by decide) rfl ?_
  exact loop (gC G) _ ((gS G, gS G, true), G.2) _ rfl rfl rfl rfl (fun h => by
    rw [nI_sub (by omega)]
    congr 1
    omega) (Nat.le_refl _) hA hX

end JKPT

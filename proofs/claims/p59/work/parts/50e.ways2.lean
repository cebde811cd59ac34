/-! THE LAW: areWays, the ways held against each other -/
section JWAY2
set_option maxRecDepth 100000 in
/-- detours by c: none is shorter; and a first step is found -/
theorem aw_c {w : Wd} {x r n : Nat} {G : Gme} (hW : WF (gS G)) (hn : n = sNb (gS G)) (hr : x + 126 ≤ r) (B a b : Nat) (ha : a < n) (hb : b < n) (k2 : ∀ w1 o7, KP w w1 x → RepX w1 x G → WM w1 r n (gS G) n 0 → J 41 mL_areWays 391 [some (.ref x), some (.int (nI n)), some (.ref r), some (.int (nI (pcN (gS G)))), some (.int (nI a)), some (.int (nI b)), some (.int (nI 1)), o7] [] w1 (B) (6 * (B)) (YQ w x G)) :
    ∀ m c w1 met, c + m = n → (met = true ↔ a = b ∨ dS (gS G) a b = none ∨ ∃ e, e < c ∧ sLk (gS G) a e = true ∧ ∃ y, dS (gS G) e b = some y ∧ dS (gS G) a b = some (sLen (gS G) e + y)) → KP w w1 x → RepX w1 x G → WM w1 r n (gS G) n 0 → J 41 mL_areWays 266 [some (.ref x), some (.int (nI n)), some (.ref r), some (.int (nI (pcN (gS G)))), some (.int (nI a)), some (.int (nI b)), some (.int (b2i met)), some (.int (nI c))] [] w1 (2 * m + B) (6 * (2 * m + B)) (YQ w x G) := by
  have hnb := hW.nb
  intro m
  induction m with
  | zero =>
    intro c w1 met hc hmet kp hX hM
    have e : c = n := by omega
    subst e
    have hm : met = true := by
      by_cases hab : a = b
      · exact hmet.mpr (Or.inl hab)
      · cases hd : dS (gS G) a b with
        | none => exact hmet.mpr (Or.inr (Or.inl hd))
        | some z =>
          obtain ⟨e, y, h1, h2, h3⟩ := dS_first hab hd
          exact hmet.mpr (Or.inr (Or.inr ⟨e, by have := (hW.2.2.2.1 _ _ h1).2.1; omega, h1, y, h2, by rw [hd, h3]⟩))
    rw [hm]
    refine J_iload dL_areWays_266 rfl ?_
    refine J_iload_n dL_areWays_268 rfl rfl ?_
    refine J_icmp_ge (tgt := 391) dL_areWays_269 (by decide) (fun h269 => ?_) (fun h => absurd ((nI_leI (by omega) (by omega)).mpr (by omega)) h)
    exact J.widen (by omega) (by omega) (k2 _ _ kp hX hM)
  | succ m ih =>
    intro c w1 met hc hmet kp hX hM
    have hcn : c < n := by omega
    have fin : ∀ w1, KP w w1 x → RepX w1 x G → WM w1 r n (gS G) n 0 → J 41 mL_areWays 329 [some (.ref x), some (.int (nI n)), some (.ref r), some (.int (nI (pcN (gS G)))), some (.int (nI a)), some (.int (nI b)), some (.int (b2i met)), some (.int (nI c))] [] w1 ((2 * m + B) + 2) (6 * (2 * m + B) + 12) (YQ w x G) := by
      intro w1 kp hX hM
      have no : ¬ (sLk (gS G) a c = true ∧ ∃ y, dS (gS G) c b = some y ∧ dS (gS G) a b = some (sLen (gS G) c + y)) → ∀ e, (e < c + 1 ∧ sLk (gS G) a e = true ∧ ∃ y, dS (gS G) e b = some y ∧ dS (gS G) a b = some (sLen (gS G) e + y)) → (e < c ∧ sLk (gS G) a e = true ∧ ∃ y, dS (gS G) e b = some y ∧ dS (gS G) a b = some (sLen (gS G) e + y)) := fun hno e ⟨h1, h2, h3⟩ => by
        by_cases q : e = c
        · subst q
          exact absurd ⟨h2, h3⟩ hno
        · exact ⟨by omega, h2, h3⟩
      have up : ∀ e, (e < c ∧ sLk (gS G) a e = true ∧ ∃ y, dS (gS G) e b = some y ∧ dS (gS G) a b = some (sLen (gS G) e + y)) → (e < c + 1 ∧ sLk (gS G) a e = true ∧ ∃ y, dS (gS G) e b = some y ∧ dS (gS G) a b = some (sLen (gS G) e + y)) := fun e ⟨h1, h2⟩ => ⟨by omega, h2⟩
      have next0 : ¬ (sLk (gS G) a c = true ∧ ∃ y, dS (gS G) c b = some y ∧ dS (gS G) a b = some (sLen (gS G) c + y)) → (met = true ↔ a = b ∨ dS (gS G) a b = none ∨ ∃ e, e < c + 1 ∧ sLk (gS G) a e = true ∧ ∃ y, dS (gS G) e b = some y ∧ dS (gS G) a b = some (sLen (gS G) e + y)) := fun hno => hmet.trans ⟨fun h => h.imp id (fun h => h.imp id (fun ⟨e, h⟩ => ⟨e, up e h⟩)), fun h => h.imp id (fun h => h.imp id (fun ⟨e, h⟩ => ⟨e, no hno e h⟩))⟩
      cases hl : sLk (gS G) a c with
      | false =>
        refine J_iload dL_areWays_329 rfl ?_
        refine J_aload_n dL_areWays_331 rfl rfl ?_
        refine J_iload dL_areWays_332 rfl ?_
        refine J_iload dL_areWays_334 rfl ?_
        refine K_h (v := nI 0) (kb := 2 * m + B + 1) (sb := 6 * (2 * m + B) + 6) dL_areWays_336 rfl YL_areLinked kL_301 (h_areLinked hX (by omega) (by omega)) (b2i_f hl) rfl rfl (Nat.le_of_ble_eq_true rfl) (by decide) (fun w11 k11 hX => ?_)
        have kp := kp.tr k11
        have hM := hM.kp k11 hr
        refine J_iconst (v := nI 1) dL_areWays_339 (by decide) ?_
        refine J_icmp_ne (tgt := 381) dL_areWays_340 (by decide) (fun h340 => ?_) (fun h => absurd h (by decide))
        refine J_iconst (v := nI 0) dL_areWays_381 (by decide) ?_
        refine K_ior (v := b2i met) dL_areWays_382 (b2i_or (p := met) (q := false) |>.trans (by rw [Bool.or_false])) ?_
        refine J_istore dL_areWays_383 (by decide) rfl ?_
        refine J_iinc (v := nI (c + 1)) dL_areWays_385 rfl (nI_succ _).symm (by decide) rfl ?_
        refine J_goto (tgt := 266) dL_areWays_388 (by decide) ?_
        exact J.widen (by omega) (by omega) (ih (c + 1) _ met (by omega) (next0 (fun q => by rw [hl] at q; cases q.1)) kp hX hM)
      | true =>
        cases hd : dS (gS G) c b with
        | none =>
          refine J_iload dL_areWays_329 rfl ?_
          refine J_aload_n dL_areWays_331 rfl rfl ?_
          refine J_iload dL_areWays_332 rfl ?_
          refine J_iload dL_areWays_334 rfl ?_
          refine K_h (v := nI 1) (kb := 2 * m + B + 1) (sb := 6 * (2 * m + B) + 6) dL_areWays_336 rfl YL_areLinked kL_301 (h_areLinked hX (by omega) (by omega)) (b2i_t hl) rfl rfl (Nat.le_of_ble_eq_true rfl) (by decide) (fun w11 k11 hX => ?_)
          have kp := kp.tr k11
          have hM := hM.kp k11 hr
          refine J_iconst (v := nI 1) dL_areWays_339 (by decide) ?_
          refine J_icmp_ne (tgt := 381) dL_areWays_340 (by decide) (fun h => absurd h (by decide)) (fun h340 => ?_)
          refine J_aload_n dL_areWays_343 rfl rfl ?_
          refine J_iload dL_areWays_344 rfl ?_
          refine K_row dL_areWays_346 hM (by omega) (by omega) ?_
          refine J_iload dL_areWays_347 rfl ?_
          refine K_way (v := (-75)) dL_areWays_349 hM (by omega) (by omega) (by omega) (Or.inl (by omega)) (oV_n hd) ?_
          refine J_if_lt (tgt := 381) dL_areWays_350 (by decide) (fun h350 => ?_) (fun h => absurd h (by decide))
          refine J_iconst (v := nI 0) dL_areWays_381 (by decide) ?_
          refine K_ior (v := b2i met) dL_areWays_382 (b2i_or (p := met) (q := false) |>.trans (by rw [Bool.or_false])) ?_
          refine J_istore dL_areWays_383 (by decide) rfl ?_
          refine J_iinc (v := nI (c + 1)) dL_areWays_385 rfl (nI_succ _).symm (by decide) rfl ?_
          refine J_goto (tgt := 266) dL_areWays_388 (by decide) ?_
          exact J.widen (by omega) (by omega) (ih (c + 1) _ met (by omega) (next0 (fun q => by obtain ⟨-, y, h1, -⟩ := q; rw [hd] at h1; cases h1)) kp hX hM)
        | some y =>
          have hy := dS_le hW (show b < sNb (gS G) by omega) hd
          have hlc := hW.2.1 c (by omega)
          obtain ⟨z, hz, hzy⟩ : ∃ z, dS (gS G) a b = some z ∧ z ≤ y + sLen (gS G) c := dst_consle hd hl
          have hz2 := dS_le hW (show b < sNb (gS G) by omega) hz
          by_cases hq : z = sLen (gS G) c + y
          · 
            refine J_iload dL_areWays_329 rfl ?_
            refine J_aload_n dL_areWays_331 rfl rfl ?_
            refine J_iload dL_areWays_332 rfl ?_
            refine J_iload dL_areWays_334 rfl ?_
            refine K_h (v := nI 1) (kb := 2 * m + B + 1) (sb := 6 * (2 * m + B) + 6) dL_areWays_336 rfl YL_areLinked kL_301 (h_areLinked hX (by omega) (by omega)) (b2i_t hl) rfl rfl (Nat.le_of_ble_eq_true rfl) (by decide) (fun w11 k11 hX => ?_)
            have kp := kp.tr k11
            have hM := hM.kp k11 hr
            refine J_iconst (v := nI 1) dL_areWays_339 (by decide) ?_
            refine J_icmp_ne (tgt := 381) dL_areWays_340 (by decide) (fun h => absurd h (by decide)) (fun h340 => ?_)
            refine J_aload_n dL_areWays_343 rfl rfl ?_
            refine J_iload dL_areWays_344 rfl ?_
            refine K_row dL_areWays_346 hM (by omega) (by omega) ?_
            refine J_iload dL_areWays_347 rfl ?_
            refine K_way (v := nI y) dL_areWays_349 hM (by omega) (by omega) (by omega) (Or.inl (by omega)) (oV_s hd) ?_
            refine J_if_lt (tgt := 381) dL_areWays_350 (by decide) (fun h => absurd h (nI_pos (by omega))) (fun h350 => ?_)
            refine J_aload_n dL_areWays_353 rfl rfl ?_
            refine J_iload dL_areWays_354 rfl ?_
            refine K_row dL_areWays_356 hM (by omega) (by omega) ?_
            refine J_iload dL_areWays_357 rfl ?_
            refine K_way (v := nI z) dL_areWays_359 hM (by omega) (by omega) (by omega) (Or.inl (by omega)) (oV_s hz) ?_
            refine J_aload_n dL_areWays_360 rfl rfl ?_
            refine J_iload dL_areWays_361 rfl ?_
            refine K_h (v := nI (sLen (gS G) c)) (kb := 2 * m + B + 0) (sb := 6 * (2 * m + B) + 0) dL_areWays_363 rfl YL_length kL_291 (h_length hX (by omega)) rfl rfl rfl (Nat.le_of_ble_eq_true rfl) (by decide) (fun w12 k12 hX => ?_)
            have kp := kp.tr k12
            have hM := hM.kp k12 hr
            refine J_aload_n dL_areWays_366 rfl rfl ?_
            refine J_iload dL_areWays_367 rfl ?_
            refine K_row dL_areWays_369 hM (by omega) (by omega) ?_
            refine J_iload dL_areWays_370 rfl ?_
            refine K_way (v := nI y) dL_areWays_372 hM (by omega) (by omega) (by omega) (Or.inl (by omega)) (oV_s hd) ?_
            refine K_iadd (v := nI (sLen (gS G) c + y)) dL_areWays_373 (nI_add _ _) ?_
            refine J_icmp_ne (tgt := 381) dL_areWays_374 (by decide) (fun h => absurd ((nI_eq (by omega) (by omega)).mpr (by omega)) h) (fun h374 => ?_)
            refine J_iconst (v := nI 1) dL_areWays_377 (by decide) ?_
            refine J_goto (tgt := 382) dL_areWays_378 (by decide) ?_
            refine K_ior (v := b2i true) dL_areWays_382 (b2i_or (p := met) (q := true) |>.trans (by rw [Bool.or_true])) ?_
            refine J_istore dL_areWays_383 (by decide) rfl ?_
            refine J_iinc (v := nI (c + 1)) dL_areWays_385 rfl (nI_succ _).symm (by decide) rfl ?_
            refine J_goto (tgt := 266) dL_areWays_388 (by decide) ?_
            exact ih (c + 1) _ true (by omega) ⟨fun _ => Or.inr (Or.inr ⟨c, by omega, hl, y, hd, by rw [hz, hq]⟩), fun _ => rfl⟩ kp hX hM
          · 
            refine J_iload dL_areWays_329 rfl ?_
            refine J_aload_n dL_areWays_331 rfl rfl ?_
            refine J_iload dL_areWays_332 rfl ?_
            refine J_iload dL_areWays_334 rfl ?_
            refine K_h (v := nI 1) (kb := 2 * m + B + 1) (sb := 6 * (2 * m + B) + 6) dL_areWays_336 rfl YL_areLinked kL_301 (h_areLinked hX (by omega) (by omega)) (b2i_t hl) rfl rfl (Nat.le_of_ble_eq_true rfl) (by decide) (fun w11 k11 hX => ?_)
            have kp := kp.tr k11
            have hM := hM.kp k11 hr
            refine J_iconst (v := nI 1) dL_areWays_339 (by decide) ?_
            refine J_icmp_ne (tgt := 381) dL_areWays_340 (by decide) (fun h => absurd h (by decide)) (fun h340 => ?_)
            refine J_aload_n dL_areWays_343 rfl rfl ?_
            refine J_iload dL_areWays_344 rfl ?_
            refine K_row dL_areWays_346 hM (by omega) (by omega) ?_
            refine J_iload dL_areWays_347 rfl ?_
            refine K_way (v := nI y) dL_areWays_349 hM (by omega) (by omega) (by omega) (Or.inl (by omega)) (oV_s hd) ?_
            refine J_if_lt (tgt := 381) dL_areWays_350 (by decide) (fun h => absurd h (nI_pos (by omega))) (fun h350 => ?_)
            refine J_aload_n dL_areWays_353 rfl rfl ?_
            refine J_iload dL_areWays_354 rfl ?_
            refine K_row dL_areWays_356 hM (by omega) (by omega) ?_
            refine J_iload dL_areWays_357 rfl ?_
            refine K_way (v := nI z) dL_areWays_359 hM (by omega) (by omega) (by omega) (Or.inl (by omega)) (oV_s hz) ?_
            refine J_aload_n dL_areWays_360 rfl rfl ?_
            refine J_iload dL_areWays_361 rfl ?_
            refine K_h (v := nI (sLen (gS G) c)) (kb := 2 * m + B + 0) (sb := 6 * (2 * m + B) + 0) dL_areWays_363 rfl YL_length kL_291 (h_length hX (by omega)) rfl rfl rfl (Nat.le_of_ble_eq_true rfl) (by decide) (fun w12 k12 hX => ?_)
            have kp := kp.tr k12
            have hM := hM.kp k12 hr
            refine J_aload_n dL_areWays_366 rfl rfl ?_
            refine J_iload dL_areWays_367 rfl ?_
            refine K_row dL_areWays_369 hM (by omega) (by omega) ?_
            refine J_iload dL_areWays_370 rfl ?_
            refine K_way (v := nI y) dL_areWays_372 hM (by omega) (by omega) (by omega) (Or.inl (by omega)) (oV_s hd) ?_
            refine K_iadd (v := nI (sLen (gS G) c + y)) dL_areWays_373 (nI_add _ _) ?_
            refine J_icmp_ne (tgt := 381) dL_areWays_374 (by decide) (fun h374 => ?_) (fun h => absurd ((nI_eq (by omega) (by omega)).mp h) (by omega))
            refine J_iconst (v := nI 0) dL_areWays_381 (by decide) ?_
            refine K_ior (v := b2i met) dL_areWays_382 (b2i_or (p := met) (q := false) |>.trans (by rw [Bool.or_false])) ?_
            refine J_istore dL_areWays_383 (by decide) rfl ?_
            refine J_iinc (v := nI (c + 1)) dL_areWays_385 rfl (nI_succ _).symm (by decide) rfl ?_
            refine J_goto (tgt := 266) dL_areWays_388 (by decide) ?_
            exact ih (c + 1) _ met (by omega) (next0 (fun q => by
              obtain ⟨-, y', h1, h2⟩ := q
              rw [hd] at h1
              cases h1
              rw [hz] at h2
              cases h2
              exact hq rfl)) kp hX hM
    clear ih
    refine J.widen (kb' := (2 * m + B) + 2) (sb' := 6 * (2 * m + B) + 12) (by omega) (by omega) ?_
    cases hac : dS (gS G) a c with
    | none =>
      refine J_iload dL_areWays_266 rfl ?_
      refine J_iload_n dL_areWays_268 rfl rfl ?_
      refine J_icmp_ge (tgt := 391) dL_areWays_269 (by decide) (fun h => absurd ((nI_leI (by omega) (by omega)).mp h) (by omega)) (fun h269 => ?_)
      refine J_aload_n dL_areWays_272 rfl rfl ?_
      refine J_iload dL_areWays_273 rfl ?_
      refine K_row dL_areWays_275 hM (by omega) (by omega) ?_
      refine J_iload dL_areWays_276 rfl ?_
      refine K_way (v := (-75)) dL_areWays_278 hM (by omega) (by omega) (by omega) (Or.inl (by omega)) (oV_n hac) ?_
      refine J_if_lt (tgt := 329) dL_areWays_279 (by decide) (fun h279 => ?_) (fun h => absurd h (by decide))
      exact fin _ kp hX hM
    | some x1 =>
      have hx1 := dS_le hW (show c < sNb (gS G) by omega) hac
      cases hcb : dS (gS G) c b with
      | none =>
        refine J_iload dL_areWays_266 rfl ?_
        refine J_iload_n dL_areWays_268 rfl rfl ?_
        refine J_icmp_ge (tgt := 391) dL_areWays_269 (by decide) (fun h => absurd ((nI_leI (by omega) (by omega)).mp h) (by omega)) (fun h269 => ?_)
        refine J_aload_n dL_areWays_272 rfl rfl ?_
        refine J_iload dL_areWays_273 rfl ?_
        refine K_row dL_areWays_275 hM (by omega) (by omega) ?_
        refine J_iload dL_areWays_276 rfl ?_
        refine K_way (v := nI x1) dL_areWays_278 hM (by omega) (by omega) (by omega) (Or.inl (by omega)) (oV_s hac) ?_
        refine J_if_lt (tgt := 329) dL_areWays_279 (by decide) (fun h => absurd h (nI_pos (by omega))) (fun h279 => ?_)
        refine J_aload_n dL_areWays_282 rfl rfl ?_
        refine J_iload dL_areWays_283 rfl ?_
        refine K_row dL_areWays_285 hM (by omega) (by omega) ?_
        refine J_iload dL_areWays_286 rfl ?_
        refine K_way (v := (-75)) dL_areWays_288 hM (by omega) (by omega) (by omega) (Or.inl (by omega)) (oV_n hcb) ?_
        refine J_if_lt (tgt := 329) dL_areWays_289 (by decide) (fun h289 => ?_) (fun h => absurd h (by decide))
        exact fin _ kp hX hM
      | some y1 =>
        have hy1 := dS_le hW (show b < sNb (gS G) by omega) hcb
        obtain ⟨z, hz, hzy⟩ : ∃ z, dS (gS G) a b = some z ∧ z ≤ x1 + y1 := dst_tri hac hcb
        have hz2 := dS_le hW (show b < sNb (gS G) by omega) hz
        refine J_iload dL_areWays_266 rfl ?_
        refine J_iload_n dL_areWays_268 rfl rfl ?_
        refine J_icmp_ge (tgt := 391) dL_areWays_269 (by decide) (fun h => absurd ((nI_leI (by omega) (by omega)).mp h) (by omega)) (fun h269 => ?_)
        refine J_aload_n dL_areWays_272 rfl rfl ?_
        refine J_iload dL_areWays_273 rfl ?_
        refine K_row dL_areWays_275 hM (by omega) (by omega) ?_
        refine J_iload dL_areWays_276 rfl ?_
        refine K_way (v := nI x1) dL_areWays_278 hM (by omega) (by omega) (by omega) (Or.inl (by omega)) (oV_s hac) ?_
        refine J_if_lt (tgt := 329) dL_areWays_279 (by decide) (fun h => absurd h (nI_pos (by omega))) (fun h279 => ?_)
        refine J_aload_n dL_areWays_282 rfl rfl ?_
        refine J_iload dL_areWays_283 rfl ?_
        refine K_row dL_areWays_285 hM (by omega) (by omega) ?_
        refine J_iload dL_areWays_286 rfl ?_
        refine K_way (v := nI y1) dL_areWays_288 hM (by omega) (by omega) (by omega) (Or.inl (by omega)) (oV_s hcb) ?_
        refine J_if_lt (tgt := 329) dL_areWays_289 (by decide) (fun h => absurd h (nI_pos (by omega))) (fun h289 => ?_)
        refine J_aload_n dL_areWays_292 rfl rfl ?_
        refine J_iload dL_areWays_293 rfl ?_
        refine K_row dL_areWays_295 hM (by omega) (by omega) ?_
        refine J_iload dL_areWays_296 rfl ?_
        refine K_way (v := nI z) dL_areWays_298 hM (by omega) (by omega) (by omega) (Or.inl (by omega)) (oV_s hz) ?_
        refine J_if_lt (tgt := 327) dL_areWays_299 (by decide) (fun h => absurd h (nI_pos (by omega))) (fun h299 => ?_)
        refine J_aload_n dL_areWays_302 rfl rfl ?_
        refine J_iload dL_areWays_303 rfl ?_
        refine K_row dL_areWays_305 hM (by omega) (by omega) ?_
        refine J_iload dL_areWays_306 rfl ?_
        refine K_way (v := nI z) dL_areWays_308 hM (by omega) (by omega) (by omega) (Or.inl (by omega)) (oV_s hz) ?_
        refine J_aload_n dL_areWays_309 rfl rfl ?_
        refine J_iload dL_areWays_310 rfl ?_
        refine K_row dL_areWays_312 hM (by omega) (by omega) ?_
        refine J_iload dL_areWays_313 rfl ?_
        refine K_way (v := nI x1) dL_areWays_315 hM (by omega) (by omega) (by omega) (Or.inl (by omega)) (oV_s hac) ?_
        refine J_aload_n dL_areWays_316 rfl rfl ?_
        refine J_iload dL_areWays_317 rfl ?_
        refine K_row dL_areWays_319 hM (by omega) (by omega) ?_
        refine J_iload dL_areWays_320 rfl ?_
        refine K_way (v := nI y1) dL_areWays_322 hM (by omega) (by omega) (by omega) (Or.inl (by omega)) (oV_s hcb) ?_
        refine K_iadd (v := nI (x1 + y1)) dL_areWays_323 (nI_add _ _) ?_
        refine J_icmp_le (tgt := 329) dL_areWays_324 (by decide) (fun h324 => ?_) (fun h => absurd ((nI_leI (by omega) (by omega)).mpr (by omega)) h)
        exact fin _ kp hX hM

set_option maxRecDepth 100000 in
/-- all b of a row -/
theorem aw_b {w : Wd} {x r n : Nat} {G : Gme} (hW : WF (gS G)) (hn : n = sNb (gS G)) (hr : x + 126 ≤ r) (B a : Nat) (ha : a < n) (k2 : ∀ w1 o5 o6 o7, KP w w1 x → RepX w1 x G → WM w1 r n (gS G) n 0 → J 41 mL_areWays 445 [some (.ref x), some (.int (nI n)), some (.ref r), some (.int (nI (pcN (gS G)))), some (.int (nI a)), o5, o6, o7] [] w1 (B) (6 * (B)) (YQ w x G)) :
    ∀ m b w1 o6 o7, b + m = n → KP w w1 x → RepX w1 x G → WM w1 r n (gS G) n 0 → J 41 mL_areWays 233 [some (.ref x), some (.int (nI n)), some (.ref r), some (.int (nI (pcN (gS G)))), some (.int (nI a)), some (.int (nI b)), o6, o7] [] w1 (30 * m + B) (6 * (30 * m + B)) (YQ w x G) := by
  have hnb := hW.nb
  intro m
  induction m with
  | zero =>
    intro b w1 o6 o7 hb kp hX hM
    have e : b = n := by omega
    subst e
    refine J_iload dL_areWays_233 rfl ?_
    refine J_iload_n dL_areWays_235 rfl rfl ?_
    refine J_icmp_ge (tgt := 445) dL_areWays_236 (by decide) (fun h236 => ?_) (fun h => absurd ((nI_leI (by omega) (by omega)).mpr (by omega)) h)
    exact J.widen (by omega) (by omega) (k2 _ _ _ _ kp hX hM)
  | succ m ih =>
    intro b w1 o6 o7 hb kp hX hM
    have hbn : b < n := by omega
    have beh : ∀ w1 o7, KP w w1 x → RepX w1 x G → WM w1 r n (gS G) n 0 → J 41 mL_areWays 391 [some (.ref x), some (.int (nI n)), some (.ref r), some (.int (nI (pcN (gS G)))), some (.int (nI a)), some (.int (nI b)), some (.int (nI 1)), o7] [] w1 ((30 * m + B) + 2) (6 * ((30 * m + B) + 2)) (YQ w x G) := by
      intro w1 o7 kp hX hM
      refine J.widen (kb' := (30 * m + B) + 2) (sb' := 6 * (30 * m + B) + 12) (by omega) (by omega) ?_
      cases hd : dS (gS G) a b with
      | none =>
        refine J_iload dL_areWays_391 rfl ?_
        refine J_if_eq (tgt := 437) dL_areWays_393 (by decide) (fun h => absurd h (by decide)) (fun h393 => ?_)
        refine J_aload_n dL_areWays_396 rfl rfl ?_
        refine J_iload dL_areWays_397 rfl ?_
        refine K_row dL_areWays_399 hM (by omega) (by omega) ?_
        refine J_iload dL_areWays_400 rfl ?_
        refine K_way (v := (-75)) dL_areWays_402 hM (by omega) (by omega) (by omega) (Or.inl (by omega)) (oV_n hd) ?_
        refine J_if_lt (tgt := 439) dL_areWays_403 (by decide) (fun h403 => ?_) (fun h => absurd h (by decide))
        refine J_iinc (v := nI (b + 1)) dL_areWays_439 rfl (nI_succ _).symm (by decide) rfl ?_
        refine J_goto (tgt := 233) dL_areWays_442 (by decide) ?_
        exact J.widen (by omega) (by omega) (ih (b + 1) _ _ _ (by omega) kp hX hM)
      | some z =>
        have hz2 := dS_le hW (show b < sNb (gS G) by omega) hd
        obtain ⟨z', hd', -⟩ := dS_rev hW hd
        have hz3 := dS_le hW (show a < sNb (gS G) by omega) hd'
        have hsub := way_sub hW hd hd'
        refine J_iload dL_areWays_391 rfl ?_
        refine J_if_eq (tgt := 437) dL_areWays_393 (by decide) (fun h => absurd h (by decide)) (fun h393 => ?_)
        refine J_aload_n dL_areWays_396 rfl rfl ?_
        refine J_iload dL_areWays_397 rfl ?_
        refine K_row dL_areWays_399 hM (by omega) (by omega) ?_
        refine J_iload dL_areWays_400 rfl ?_
        refine K_way (v := nI z) dL_areWays_402 hM (by omega) (by omega) (by omega) (Or.inl (by omega)) (oV_s hd) ?_
        refine J_if_lt (tgt := 439) dL_areWays_403 (by decide) (fun h => absurd h (nI_pos (by omega))) (fun h403 => ?_)
        refine J_aload_n dL_areWays_406 rfl rfl ?_
        refine J_iload dL_areWays_407 rfl ?_
        refine K_row dL_areWays_409 hM (by omega) (by omega) ?_
        refine J_iload dL_areWays_410 rfl ?_
        refine K_way (v := nI z) dL_areWays_412 hM (by omega) (by omega) (by omega) (Or.inl (by omega)) (oV_s hd) ?_
        refine J_aload_n dL_areWays_413 rfl rfl ?_
        refine J_iload dL_areWays_414 rfl ?_
        refine K_h (v := nI (sLen (gS G) b)) (kb := 30 * m + B + 1) (sb := 6 * (30 * m + B) + 6) dL_areWays_416 rfl YL_length kL_291 (h_length hX (by omega)) rfl rfl rfl (Nat.le_of_ble_eq_true rfl) (by decide) (fun w11 k11 hX => ?_)
        have kp := kp.tr k11
        have hM := hM.kp k11 hr
        refine K_isub (v := (nI z - nI (sLen (gS G) b))) dL_areWays_419 rfl ?_
        refine J_aload_n dL_areWays_420 rfl rfl ?_
        refine J_iload dL_areWays_421 rfl ?_
        refine K_row dL_areWays_423 hM (by omega) (by omega) ?_
        refine J_iload dL_areWays_424 rfl ?_
        refine K_way (v := nI z') dL_areWays_426 hM (by omega) (by omega) (by omega) (Or.inl (by omega)) (oV_s hd') ?_
        refine J_aload_n dL_areWays_427 rfl rfl ?_
        refine J_iload dL_areWays_428 rfl ?_
        refine K_h (v := nI (sLen (gS G) a)) (kb := 30 * m + B + 0) (sb := 6 * (30 * m + B) + 0) dL_areWays_430 rfl YL_length kL_291 (h_length hX (by omega)) rfl rfl rfl (Nat.le_of_ble_eq_true rfl) (by decide) (fun w12 k12 hX => ?_)
        have kp := kp.tr k12
        have hM := hM.kp k12 hr
        refine K_isub (v := (nI z' - nI (sLen (gS G) a))) dL_areWays_433 rfl ?_
        refine J_icmp_eq (tgt := 439) dL_areWays_434 (by decide) (fun h434 => ?_) (fun h => absurd h (fun q => q hsub))
        refine J_iinc (v := nI (b + 1)) dL_areWays_439 rfl (nI_succ _).symm (by decide) rfl ?_
        refine J_goto (tgt := 233) dL_areWays_442 (by decide) ?_
        exact ih (b + 1) _ _ _ (by omega) kp hX hM
    have go := fun met w1 (hm : met = true ↔ a = b ∨ dS (gS G) a b = none ∨ ∃ e, e < 0 ∧ sLk (gS G) a e = true ∧ ∃ y, dS (gS G) e b = some y ∧ dS (gS G) a b = some (sLen (gS G) e + y)) (kp : KP w w1 x) (hX : RepX w1 x G) (hM : WM w1 r n (gS G) n 0) => aw_c hW hn hr ((30 * m + B) + 2) a b ha hbn beh n 0 w1 met (by omega) hm kp hX hM
    refine J.widen (kb' := (2 * n + ((30 * m + B) + 2)) + 0) (sb' := 6 * (2 * n + ((30 * m + B) + 2)) + 0) (by omega) (by omega) ?_
    by_cases hab : a = b
    · 
      refine J_iload dL_areWays_233 rfl ?_
      refine J_iload_n dL_areWays_235 rfl rfl ?_
      refine J_icmp_ge (tgt := 445) dL_areWays_236 (by decide) (fun h => absurd ((nI_leI (by omega) (by omega)).mp h) (by omega)) (fun h236 => ?_)
      refine J_iload dL_areWays_239 rfl ?_
      refine J_iload dL_areWays_241 rfl ?_
      refine J_icmp_eq (tgt := 256) dL_areWays_243 (by decide) (fun h243 => ?_) (fun h => absurd ((nI_eq (by omega) (by omega)).mpr (by omega)) h)
      refine J_iconst (v := nI 1) dL_areWays_256 (by decide) ?_
      refine J_goto (tgt := 261) dL_areWays_257 (by decide) ?_
      refine J_istore dL_areWays_261 (by decide) rfl ?_
      refine J_iconst (v := nI 0) dL_areWays_263 (by decide) ?_
      refine J_istore dL_areWays_264 (by decide) rfl ?_
      exact go true _ ⟨fun _ => Or.inl hab, fun _ => rfl⟩ kp hX hM
    · cases hd : dS (gS G) a b with
      | none =>
        refine J_iload dL_areWays_233 rfl ?_
        refine J_iload_n dL_areWays_235 rfl rfl ?_
        refine J_icmp_ge (tgt := 445) dL_areWays_236 (by decide) (fun h => absurd ((nI_leI (by omega) (by omega)).mp h) (by omega)) (fun h236 => ?_)
        refine J_iload dL_areWays_239 rfl ?_
        refine J_iload dL_areWays_241 rfl ?_
        refine J_icmp_eq (tgt := 256) dL_areWays_243 (by decide) (fun h => absurd ((nI_eq (by omega) (by omega)).mp h) (by omega)) (fun h243 => ?_)
        refine J_aload_n dL_areWays_246 rfl rfl ?_
        refine J_iload dL_areWays_247 rfl ?_
        refine K_row dL_areWays_249 hM (by omega) (by omega) ?_
        refine J_iload dL_areWays_250 rfl ?_
        refine K_way (v := (-75)) dL_areWays_252 hM (by omega) (by omega) (by omega) (Or.inl (by omega)) (oV_n hd) ?_
        refine J_if_ge (tgt := 260) dL_areWays_253 (by decide) (fun h => absurd h (by decide)) (fun h253 => ?_)
        refine J_iconst (v := nI 1) dL_areWays_256 (by decide) ?_
        refine J_goto (tgt := 261) dL_areWays_257 (by decide) ?_
        refine J_istore dL_areWays_261 (by decide) rfl ?_
        refine J_iconst (v := nI 0) dL_areWays_263 (by decide) ?_
        refine J_istore dL_areWays_264 (by decide) rfl ?_
        exact go true _ ⟨fun _ => Or.inr (Or.inl hd), fun _ => rfl⟩ kp hX hM
      | some z =>
        have hz2 := dS_le hW (show b < sNb (gS G) by omega) hd
        refine J_iload dL_areWays_233 rfl ?_
        refine J_iload_n dL_areWays_235 rfl rfl ?_
        refine J_icmp_ge (tgt := 445) dL_areWays_236 (by decide) (fun h => absurd ((nI_leI (by omega) (by omega)).mp h) (by omega)) (fun h236 => ?_)
        refine J_iload dL_areWays_239 rfl ?_
        refine J_iload dL_areWays_241 rfl ?_
        refine J_icmp_eq (tgt := 256) dL_areWays_243 (by decide) (fun h => absurd ((nI_eq (by omega) (by omega)).mp h) (by omega)) (fun h243 => ?_)
        refine J_aload_n dL_areWays_246 rfl rfl ?_
        refine J_iload dL_areWays_247 rfl ?_
        refine K_row dL_areWays_249 hM (by omega) (by omega) ?_
        refine J_iload dL_areWays_250 rfl ?_
        refine K_way (v := nI z) dL_areWays_252 hM (by omega) (by omega) (by omega) (Or.inl (by omega)) (oV_s hd) ?_
        refine J_if_ge (tgt := 260) dL_areWays_253 (by decide) (fun h253 => ?_) (fun h => absurd h (fun q => q (nI_pos' (by omega))))
        refine J_iconst (v := nI 0) dL_areWays_260 (by decide) ?_
        refine J_istore dL_areWays_261 (by decide) rfl ?_
        refine J_iconst (v := nI 0) dL_areWays_263 (by decide) ?_
        refine J_istore dL_areWays_264 (by decide) rfl ?_
        exact go false _ ⟨fun h => (by cases h), fun h => by
          rcases h with h | h | ⟨e, h, -⟩
          · exact absurd h hab
          · rw [hd] at h
            cases h
          · omega⟩ kp hX hM

set_option maxRecDepth 100000 in
/-- the nearest cushion of a -/
theorem aw_n {w : Wd} {x r n : Nat} {G : Gme} (hW : WF (gS G)) (hn : n = sNb (gS G)) (hr : x + 126 ≤ r) (B a : Nat) (ha : a < n) (k2 : ∀ w1 o5 o6 o7, KP w w1 x → RepX w1 x G → WM w1 r n (gS G) n 0 → J 41 mL_areWays 574 [some (.ref x), some (.int (nI n)), some (.ref r), some (.int (nI (pcN (gS G)))), some (.int (nI a)), o5, o6, o7] [] w1 (B) (6 * (B)) (YQ w x G)) :
    ∀ w1 o5 o6 o7, KP w w1 x → RepX w1 x G → WM w1 r n (gS G) n 0 → J 41 mL_areWays 445 [some (.ref x), some (.int (nI n)), some (.ref r), some (.int (nI (pcN (gS G)))), some (.int (nI a)), o5, o6, o7] [] w1 (16 + B) (6 * (16 + B)) (YQ w x G) := by
  have hnb := hW.nb
  intro w1 o5 o6 o7 kp hX hM
  refine J.widen (kb' := (n + (B + 1)) + 1) (sb' := 6 * (n + (B + 1)) + 6) (by omega) (by omega) ?_
  cases hne : nrC (gS G) a with
  | none =>
    have hno := nrC_none hne
    have lp : ∀ m b w1 o7, b + m = n → KP w w1 x → RepX w1 x G → WM w1 r n (gS G) n 0 → J 41 mL_areWays 456 [some (.ref x), some (.int (nI n)), some (.ref r), some (.int (nI (pcN (gS G)))), some (.int (nI a)), some (.int (-75)), some (.int (nI b)), o7] [] w1 (m + (B + 1)) (6 * (m + (B + 1))) (YQ w x G) := by
      intro m
      induction m with
      | zero =>
        intro b w1 o7 hb kp hX hM
        have e : b = n := by omega
        subst e
        refine J_iload dL_areWays_456 rfl ?_
        refine J_iload_n dL_areWays_458 rfl rfl ?_
        refine J_icmp_ge (tgt := 548) dL_areWays_459 (by decide) (fun h459 => ?_) (fun h => absurd ((nI_leI (by omega) (by omega)).mpr (by omega)) h)
        refine J_iload dL_areWays_548 rfl ?_
        refine J_if_lt (tgt := 574) dL_areWays_550 (by decide) (fun h550 => ?_) (fun h => absurd h (by decide))
        exact J.widen (by omega) (by omega) (k2 _ _ _ _ kp hX hM)
      | succ m ih =>
        intro b w1 o7 hb kp hX hM
        refine J.widen (kb' := (m + (B + 1)) + 1) (sb' := 6 * (m + (B + 1)) + 6) (by omega) (by omega) ?_
        cases hcu : sCu (gS G) b with
        | false =>
          refine J_iload dL_areWays_456 rfl ?_
          refine J_iload_n dL_areWays_458 rfl rfl ?_
          refine J_icmp_ge (tgt := 548) dL_areWays_459 (by decide) (fun h => absurd ((nI_leI (by omega) (by omega)).mp h) (by omega)) (fun h459 => ?_)
          refine J_aload_n dL_areWays_462 rfl rfl ?_
          refine J_iload dL_areWays_463 rfl ?_
          refine K_h (v := nI 0) (kb := m + (B + 1) + 0) (sb := 6 * (m + (B + 1)) + 0) dL_areWays_465 rfl YL_isCushion kL_293 (h_isCushion hX (by omega)) (b2i_f hcu) rfl rfl (Nat.le_of_ble_eq_true rfl) (by decide) (fun w11 k11 hX => ?_)
          have kp := kp.tr k11
          have hM := hM.kp k11 hr
          refine J_iconst (v := nI 1) dL_areWays_468 (by decide) ?_
          refine J_icmp_ne (tgt := 486) dL_areWays_469 (by decide) (fun h469 => ?_) (fun h => absurd h (by decide))
          refine J_iconst (v := nI 0) dL_areWays_486 (by decide) ?_
          refine J_istore dL_areWays_487 (by decide) rfl ?_
          refine J_iload dL_areWays_489 rfl ?_
          refine J_if_eq (tgt := 542) dL_areWays_491 (by decide) (fun h491 => ?_) (fun h => absurd h (by decide))
          refine J_iinc (v := nI (b + 1)) dL_areWays_542 rfl (nI_succ _).symm (by decide) rfl ?_
          refine J_goto (tgt := 456) dL_areWays_545 (by decide) ?_
          exact ih (b + 1) _ _ (by omega) kp hX hM
        | true =>
          have hd := hno b (by omega) hcu
          refine J_iload dL_areWays_456 rfl ?_
          refine J_iload_n dL_areWays_458 rfl rfl ?_
          refine J_icmp_ge (tgt := 548) dL_areWays_459 (by decide) (fun h => absurd ((nI_leI (by omega) (by omega)).mp h) (by omega)) (fun h459 => ?_)
          refine J_aload_n dL_areWays_462 rfl rfl ?_
          refine J_iload dL_areWays_463 rfl ?_
          refine K_h (v := nI 1) (kb := m + (B + 1) + 0) (sb := 6 * (m + (B + 1)) + 0) dL_areWays_465 rfl YL_isCushion kL_293 (h_isCushion hX (by omega)) (b2i_t hcu) rfl rfl (Nat.le_of_ble_eq_true rfl) (by decide) (fun w11 k11 hX => ?_)
          have kp := kp.tr k11
          have hM := hM.kp k11 hr
          refine J_iconst (v := nI 1) dL_areWays_468 (by decide) ?_
          refine J_icmp_ne (tgt := 486) dL_areWays_469 (by decide) (fun h => absurd h (by decide)) (fun h469 => ?_)
          refine J_aload_n dL_areWays_472 rfl rfl ?_
          refine J_iload dL_areWays_473 rfl ?_
          refine K_row dL_areWays_475 hM (by omega) (by omega) ?_
          refine J_iload dL_areWays_476 rfl ?_
          refine K_way (v := (-75)) dL_areWays_478 hM (by omega) (by omega) (by omega) (Or.inl (by omega)) (oV_n hd) ?_
          refine J_if_lt (tgt := 486) dL_areWays_479 (by decide) (fun h479 => ?_) (fun h => absurd h (by decide))
          refine J_iconst (v := nI 0) dL_areWays_486 (by decide) ?_
          refine J_istore dL_areWays_487 (by decide) rfl ?_
          refine J_iload dL_areWays_489 rfl ?_
          refine J_if_eq (tgt := 542) dL_areWays_491 (by decide) (fun h491 => ?_) (fun h => absurd h (by decide))
          refine J_iinc (v := nI (b + 1)) dL_areWays_542 rfl (nI_succ _).symm (by decide) rfl ?_
          refine J_goto (tgt := 456) dL_areWays_545 (by decide) ?_
          exact ih (b + 1) _ _ (by omega) kp hX hM
    refine J_aload_n dL_areWays_445 rfl rfl ?_
    refine J_iload dL_areWays_446 rfl ?_
    refine K_h (v := (-75)) (kb := n + (B + 1) + 0) (sb := 6 * (n + (B + 1)) + 0) dL_areWays_448 rfl YL_nearestCushion kL_321 (h_nearestCushion hX (by omega)) (oV_n hne) rfl rfl (Nat.le_of_ble_eq_true rfl) (by decide) (fun w11 k11 hX => ?_)
    have kp := kp.tr k11
    have hM := hM.kp k11 hr
    refine J_istore dL_areWays_451 (by decide) rfl ?_
    refine J_iconst (v := nI 0) dL_areWays_453 (by decide) ?_
    refine J_istore dL_areWays_454 (by decide) rfl ?_
    exact lp n 0 _ _ (by omega) kp hX hM
  | some k =>
    obtain ⟨hk, hkc, mm, hkm, hmin⟩ := nrC_some hne
    have hm2 := dS_le hW hk hkm
    have lp : ∀ m b w1 o7, b + m = n → KP w w1 x → RepX w1 x G → WM w1 r n (gS G) n 0 → J 41 mL_areWays 456 [some (.ref x), some (.int (nI n)), some (.ref r), some (.int (nI (pcN (gS G)))), some (.int (nI a)), some (.int (nI k)), some (.int (nI b)), o7] [] w1 (m + (B + 1)) (6 * (m + (B + 1))) (YQ w x G) := by
      intro m
      induction m with
      | zero =>
        intro b w1 o7 hb kp hX hM
        have e : b = n := by omega
        subst e
        refine J.widen (kb' := B + 1) (sb' := 6 * B + 6) (by omega) (by omega) ?_
        refine J_iload dL_areWays_456 rfl ?_
        refine J_iload_n dL_areWays_458 rfl rfl ?_
        refine J_icmp_ge (tgt := 548) dL_areWays_459 (by decide) (fun h459 => ?_) (fun h => absurd ((nI_leI (by omega) (by omega)).mpr (by omega)) h)
        refine J_iload dL_areWays_548 rfl ?_
        refine J_if_lt (tgt := 574) dL_areWays_550 (by decide) (fun h => absurd h (nI_pos (by omega))) (fun h550 => ?_)
        refine J_aload_n dL_areWays_553 rfl rfl ?_
        refine J_iload dL_areWays_554 rfl ?_
        refine K_h (v := nI 1) (kb := B + 0) (sb := 6 * (B) + 0) dL_areWays_556 rfl YL_isCushion kL_293 (h_isCushion hX (by omega)) (b2i_t hkc) rfl rfl (Nat.le_of_ble_eq_true rfl) (by decide) (fun w11 k11 hX => ?_)
        have kp := kp.tr k11
        have hM := hM.kp k11 hr
        refine J_if_eq (tgt := 572) dL_areWays_559 (by decide) (fun h => absurd h (by decide)) (fun h559 => ?_)
        refine J_aload_n dL_areWays_562 rfl rfl ?_
        refine J_iload dL_areWays_563 rfl ?_
        refine K_row dL_areWays_565 hM (by omega) (by omega) ?_
        refine J_iload dL_areWays_566 rfl ?_
        refine K_way (v := nI mm) dL_areWays_568 hM (by omega) (by omega) (by omega) (Or.inl (by omega)) (oV_s hkm) ?_
        refine J_if_ge (tgt := 574) dL_areWays_569 (by decide) (fun h569 => ?_) (fun h => absurd h (fun q => q (nI_pos' (by omega))))
        exact J.widen (by omega) (by omega) (k2 _ _ _ _ kp hX hM)
      | succ m ih =>
        intro b w1 o7 hb kp hX hM
        refine J.widen (kb' := (m + (B + 1)) + 1) (sb' := 6 * (m + (B + 1)) + 6) (by omega) (by omega) ?_
        cases hcu : sCu (gS G) b with
        | false =>
          refine J_iload dL_areWays_456 rfl ?_
          refine J_iload_n dL_areWays_458 rfl rfl ?_
          refine J_icmp_ge (tgt := 548) dL_areWays_459 (by decide) (fun h => absurd ((nI_leI (by omega) (by omega)).mp h) (by omega)) (fun h459 => ?_)
          refine J_aload_n dL_areWays_462 rfl rfl ?_
          refine J_iload dL_areWays_463 rfl ?_
          refine K_h (v := nI 0) (kb := m + (B + 1) + 0) (sb := 6 * (m + (B + 1)) + 0) dL_areWays_465 rfl YL_isCushion kL_293 (h_isCushion hX (by omega)) (b2i_f hcu) rfl rfl (Nat.le_of_ble_eq_true rfl) (by decide) (fun w11 k11 hX => ?_)
          have kp := kp.tr k11
          have hM := hM.kp k11 hr
          refine J_iconst (v := nI 1) dL_areWays_468 (by decide) ?_
          refine J_icmp_ne (tgt := 486) dL_areWays_469 (by decide) (fun h469 => ?_) (fun h => absurd h (by decide))
          refine J_iconst (v := nI 0) dL_areWays_486 (by decide) ?_
          refine J_istore dL_areWays_487 (by decide) rfl ?_
          refine J_iload dL_areWays_489 rfl ?_
          refine J_if_eq (tgt := 542) dL_areWays_491 (by decide) (fun h491 => ?_) (fun h => absurd h (by decide))
          refine J_iinc (v := nI (b + 1)) dL_areWays_542 rfl (nI_succ _).symm (by decide) rfl ?_
          refine J_goto (tgt := 456) dL_areWays_545 (by decide) ?_
          exact ih (b + 1) _ _ (by omega) kp hX hM
        | true =>
          cases hd : dS (gS G) a b with
          | none =>
            refine J_iload dL_areWays_456 rfl ?_
            refine J_iload_n dL_areWays_458 rfl rfl ?_
            refine J_icmp_ge (tgt := 548) dL_areWays_459 (by decide) (fun h => absurd ((nI_leI (by omega) (by omega)).mp h) (by omega)) (fun h459 => ?_)
            refine J_aload_n dL_areWays_462 rfl rfl ?_
            refine J_iload dL_areWays_463 rfl ?_
            refine K_h (v := nI 1) (kb := m + (B + 1) + 0) (sb := 6 * (m + (B + 1)) + 0) dL_areWays_465 rfl YL_isCushion kL_293 (h_isCushion hX (by omega)) (b2i_t hcu) rfl rfl (Nat.le_of_ble_eq_true rfl) (by decide) (fun w11 k11 hX => ?_)
            have kp := kp.tr k11
            have hM := hM.kp k11 hr
            refine J_iconst (v := nI 1) dL_areWays_468 (by decide) ?_
            refine J_icmp_ne (tgt := 486) dL_areWays_469 (by decide) (fun h => absurd h (by decide)) (fun h469 => ?_)
            refine J_aload_n dL_areWays_472 rfl rfl ?_
            refine J_iload dL_areWays_473 rfl ?_
            refine K_row dL_areWays_475 hM (by omega) (by omega) ?_
            refine J_iload dL_areWays_476 rfl ?_
            refine K_way (v := (-75)) dL_areWays_478 hM (by omega) (by omega) (by omega) (Or.inl (by omega)) (oV_n hd) ?_
            refine J_if_lt (tgt := 486) dL_areWays_479 (by decide) (fun h479 => ?_) (fun h => absurd h (by decide))
            refine J_iconst (v := nI 0) dL_areWays_486 (by decide) ?_
            refine J_istore dL_areWays_487 (by decide) rfl ?_
            refine J_iload dL_areWays_489 rfl ?_
            refine J_if_eq (tgt := 542) dL_areWays_491 (by decide) (fun h491 => ?_) (fun h => absurd h (by decide))
            refine J_iinc (v := nI (b + 1)) dL_areWays_542 rfl (nI_succ _).symm (by decide) rfl ?_
            refine J_goto (tgt := 456) dL_areWays_545 (by decide) ?_
            exact ih (b + 1) _ _ (by omega) kp hX hM
          | some z =>
            have hz2 := dS_le hW (show b < sNb (gS G) by omega) hd
            rcases hmin b (by omega) hcu z hd with hq | ⟨hq, hq2⟩
            · 
              refine J_iload dL_areWays_456 rfl ?_
              refine J_iload_n dL_areWays_458 rfl rfl ?_
              refine J_icmp_ge (tgt := 548) dL_areWays_459 (by decide) (fun h => absurd ((nI_leI (by omega) (by omega)).mp h) (by omega)) (fun h459 => ?_)
              refine J_aload_n dL_areWays_462 rfl rfl ?_
              refine J_iload dL_areWays_463 rfl ?_
              refine K_h (v := nI 1) (kb := m + (B + 1) + 0) (sb := 6 * (m + (B + 1)) + 0) dL_areWays_465 rfl YL_isCushion kL_293 (h_isCushion hX (by omega)) (b2i_t hcu) rfl rfl (Nat.le_of_ble_eq_true rfl) (by decide) (fun w11 k11 hX => ?_)
              have kp := kp.tr k11
              have hM := hM.kp k11 hr
              refine J_iconst (v := nI 1) dL_areWays_468 (by decide) ?_
              refine J_icmp_ne (tgt := 486) dL_areWays_469 (by decide) (fun h => absurd h (by decide)) (fun h469 => ?_)
              refine J_aload_n dL_areWays_472 rfl rfl ?_
              refine J_iload dL_areWays_473 rfl ?_
              refine K_row dL_areWays_475 hM (by omega) (by omega) ?_
              refine J_iload dL_areWays_476 rfl ?_
              refine K_way (v := nI z) dL_areWays_478 hM (by omega) (by omega) (by omega) (Or.inl (by omega)) (oV_s hd) ?_
              refine J_if_lt (tgt := 486) dL_areWays_479 (by decide) (fun h => absurd h (nI_pos (by omega))) (fun h479 => ?_)
              refine J_iconst (v := nI 1) dL_areWays_482 (by decide) ?_
              refine J_goto (tgt := 487) dL_areWays_483 (by decide) ?_
              refine J_istore dL_areWays_487 (by decide) rfl ?_
              refine J_iload dL_areWays_489 rfl ?_
              refine J_if_eq (tgt := 542) dL_areWays_491 (by decide) (fun h => absurd h (by decide)) (fun h491 => ?_)
              refine J_iload dL_areWays_494 rfl ?_
              refine J_if_lt (tgt := 540) dL_areWays_496 (by decide) (fun h => absurd h (nI_pos (by omega))) (fun h496 => ?_)
              refine J_aload_n dL_areWays_499 rfl rfl ?_
              refine J_iload dL_areWays_500 rfl ?_
              refine K_row dL_areWays_502 hM (by omega) (by omega) ?_
              refine J_iload dL_areWays_503 rfl ?_
              refine K_way (v := nI mm) dL_areWays_505 hM (by omega) (by omega) (by omega) (Or.inl (by omega)) (oV_s hkm) ?_
              refine J_aload_n dL_areWays_506 rfl rfl ?_
              refine J_iload dL_areWays_507 rfl ?_
              refine K_row dL_areWays_509 hM (by omega) (by omega) ?_
              refine J_iload dL_areWays_510 rfl ?_
              refine K_way (v := nI z) dL_areWays_512 hM (by omega) (by omega) (by omega) (Or.inl (by omega)) (oV_s hd) ?_
              refine J_icmp_gt (tgt := 540) dL_areWays_513 (by decide) (fun h => absurd ((nI_ltI (by omega) (by omega)).mp h) (by omega)) (fun h513 => ?_)
              refine J_aload_n dL_areWays_516 rfl rfl ?_
              refine J_iload dL_areWays_517 rfl ?_
              refine K_row dL_areWays_519 hM (by omega) (by omega) ?_
              refine J_iload dL_areWays_520 rfl ?_
              refine K_way (v := nI mm) dL_areWays_522 hM (by omega) (by omega) (by omega) (Or.inl (by omega)) (oV_s hkm) ?_
              refine J_aload_n dL_areWays_523 rfl rfl ?_
              refine J_iload dL_areWays_524 rfl ?_
              refine K_row dL_areWays_526 hM (by omega) (by omega) ?_
              refine J_iload dL_areWays_527 rfl ?_
              refine K_way (v := nI z) dL_areWays_529 hM (by omega) (by omega) (by omega) (Or.inl (by omega)) (oV_s hd) ?_
              refine J_icmp_ne (tgt := 542) dL_areWays_530 (by decide) (fun h530 => ?_) (fun h => absurd ((nI_eq (by omega) (by omega)).mp h) (by omega))
              refine J_iinc (v := nI (b + 1)) dL_areWays_542 rfl (nI_succ _).symm (by decide) rfl ?_
              refine J_goto (tgt := 456) dL_areWays_545 (by decide) ?_
              exact ih (b + 1) _ _ (by omega) kp hX hM
            · 
              refine J_iload dL_areWays_456 rfl ?_
              refine J_iload_n dL_areWays_458 rfl rfl ?_
              refine J_icmp_ge (tgt := 548) dL_areWays_459 (by decide) (fun h => absurd ((nI_leI (by omega) (by omega)).mp h) (by omega)) (fun h459 => ?_)
              refine J_aload_n dL_areWays_462 rfl rfl ?_
              refine J_iload dL_areWays_463 rfl ?_
              refine K_h (v := nI 1) (kb := m + (B + 1) + 0) (sb := 6 * (m + (B + 1)) + 0) dL_areWays_465 rfl YL_isCushion kL_293 (h_isCushion hX (by omega)) (b2i_t hcu) rfl rfl (Nat.le_of_ble_eq_true rfl) (by decide) (fun w11 k11 hX => ?_)
              have kp := kp.tr k11
              have hM := hM.kp k11 hr
              refine J_iconst (v := nI 1) dL_areWays_468 (by decide) ?_
              refine J_icmp_ne (tgt := 486) dL_areWays_469 (by decide) (fun h => absurd h (by decide)) (fun h469 => ?_)
              refine J_aload_n dL_areWays_472 rfl rfl ?_
              refine J_iload dL_areWays_473 rfl ?_
              refine K_row dL_areWays_475 hM (by omega) (by omega) ?_
              refine J_iload dL_areWays_476 rfl ?_
              refine K_way (v := nI z) dL_areWays_478 hM (by omega) (by omega) (by omega) (Or.inl (by omega)) (oV_s hd) ?_
              refine J_if_lt (tgt := 486) dL_areWays_479 (by decide) (fun h => absurd h (nI_pos (by omega))) (fun h479 => ?_)
              refine J_iconst (v := nI 1) dL_areWays_482 (by decide) ?_
              refine J_goto (tgt := 487) dL_areWays_483 (by decide) ?_
              refine J_istore dL_areWays_487 (by decide) rfl ?_
              refine J_iload dL_areWays_489 rfl ?_
              refine J_if_eq (tgt := 542) dL_areWays_491 (by decide) (fun h => absurd h (by decide)) (fun h491 => ?_)
              refine J_iload dL_areWays_494 rfl ?_
              refine J_if_lt (tgt := 540) dL_areWays_496 (by decide) (fun h => absurd h (nI_pos (by omega))) (fun h496 => ?_)
              refine J_aload_n dL_areWays_499 rfl rfl ?_
              refine J_iload dL_areWays_500 rfl ?_
              refine K_row dL_areWays_502 hM (by omega) (by omega) ?_
              refine J_iload dL_areWays_503 rfl ?_
              refine K_way (v := nI mm) dL_areWays_505 hM (by omega) (by omega) (by omega) (Or.inl (by omega)) (oV_s hkm) ?_
              refine J_aload_n dL_areWays_506 rfl rfl ?_
              refine J_iload dL_areWays_507 rfl ?_
              refine K_row dL_areWays_509 hM (by omega) (by omega) ?_
              refine J_iload dL_areWays_510 rfl ?_
              refine K_way (v := nI z) dL_areWays_512 hM (by omega) (by omega) (by omega) (Or.inl (by omega)) (oV_s hd) ?_
              refine J_icmp_gt (tgt := 540) dL_areWays_513 (by decide) (fun h => absurd ((nI_ltI (by omega) (by omega)).mp h) (by omega)) (fun h513 => ?_)
              refine J_aload_n dL_areWays_516 rfl rfl ?_
              refine J_iload dL_areWays_517 rfl ?_
              refine K_row dL_areWays_519 hM (by omega) (by omega) ?_
              refine J_iload dL_areWays_520 rfl ?_
              refine K_way (v := nI mm) dL_areWays_522 hM (by omega) (by omega) (by omega) (Or.inl (by omega)) (oV_s hkm) ?_
              refine J_aload_n dL_areWays_523 rfl rfl ?_
              refine J_iload dL_areWays_524 rfl ?_
              refine K_row dL_areWays_526 hM (by omega) (by omega) ?_
              refine J_iload dL_areWays_527 rfl ?_
              refine K_way (v := nI z) dL_areWays_529 hM (by omega) (by omega) (by omega) (Or.inl (by omega)) (oV_s hd) ?_
              refine J_icmp_ne (tgt := 542) dL_areWays_530 (by decide) (fun h => absurd ((nI_eq (by omega) (by omega)).mpr (by omega)) h) (fun h530 => ?_)
              refine J_iload dL_areWays_533 rfl ?_
              refine J_iload dL_areWays_535 rfl ?_
              refine J_icmp_le (tgt := 542) dL_areWays_537 (by decide) (fun h537 => ?_) (fun h => absurd ((nI_leI (by omega) (by omega)).mpr (by omega)) h)
              refine J_iinc (v := nI (b + 1)) dL_areWays_542 rfl (nI_succ _).symm (by decide) rfl ?_
              refine J_goto (tgt := 456) dL_areWays_545 (by decide) ?_
              exact ih (b + 1) _ _ (by omega) kp hX hM
    refine J_aload_n dL_areWays_445 rfl rfl ?_
    refine J_iload dL_areWays_446 rfl ?_
    refine K_h (v := nI k) (kb := n + (B + 1) + 0) (sb := 6 * (n + (B + 1)) + 0) dL_areWays_448 rfl YL_nearestCushion kL_321 (h_nearestCushion hX (by omega)) (oV_s hne) rfl rfl (Nat.le_of_ble_eq_true rfl) (by decide) (fun w11 k11 hX => ?_)
    have kp := kp.tr k11
    have hM := hM.kp k11 hr
    refine J_istore dL_areWays_451 (by decide) rfl ?_
    refine J_iconst (v := nI 0) dL_areWays_453 (by decide) ?_
    refine J_istore dL_areWays_454 (by decide) rfl ?_
    exact lp n 0 _ _ (by omega) kp hX hM

set_option maxRecDepth 100000 in
theorem aw_2 {w : Wd} {x r n : Nat} {G : Gme} (hW : WF (gS G)) (hn : n = sNb (gS G)) (hr : x + 126 ≤ r) (hlo : ∀ b, w.1 b ≠ dead → b < r) :
    ∀ m a w1 o5 o6 o7, a + m = n → KP w w1 x → RepX w1 x G → WM w1 r n (gS G) n 0 → J 41 mL_areWays 224 [some (.ref x), some (.int (nI n)), some (.ref r), some (.int (nI (pcN (gS G)))), some (.int (nI a)), o5, o6, o7] [] w1 (450 * m + 2) (6 * (450 * m + 2)) (YQ w x G) := by
  have hnb := hW.nb
  intro m
  induction m with
  | zero =>
    intro a w1 o5 o6 o7 ha kp hX hM
    have e : a = n := by omega
    subst e
    have hpc : pcN (gS G) ≤ 14 := Nat.le_trans (cnt_le _ _) hnb
    refine J.widen (kb' := 0 + 2) (sb' := 6 * 0 + 12) (by omega) (by omega) ?_
    refine J_iload dL_areWays_224 rfl ?_
    refine J_iload_n dL_areWays_226 rfl rfl ?_
    refine J_icmp_ge (tgt := 580) dL_areWays_227 (by decide) (fun h227 => ?_) (fun h => absurd ((nI_leI (by omega) (by omega)).mpr (by omega)) h)
    refine J_aload_n dL_areWays_580 rfl rfl ?_
    refine K_hV (v := nI (pcN (gS G))) (kb := 0 + 1) (sb := 6 * (0) + 6) dL_areWays_581 YX8_partCount kL_323 hX.rc (c_X8_partCount hX) rfl rfl rfl (Nat.le_of_ble_eq_true rfl) (by decide) (fun w2 k2 hX => ?_)
    have kp := kp.tr k2
    have hM := hM.kp k2 hr
    refine J_iload_n dL_areWays_584 rfl rfl ?_
    refine J_icmp_ne (tgt := 600) dL_areWays_585 (by decide) (fun h => absurd ((nI_eq (by omega) (by omega)).mpr (by omega)) h) (fun h585 => ?_)
    refine J_aload_n dL_areWays_588 rfl rfl ?_
    refine K_hV (v := nI (pcN (gS G))) (kb := 0 + 0) (sb := 6 * (0) + 0) dL_areWays_589 YX8_partCountByUnions kL_326 hX.rc (c_X8_partCountByUnions hX) rfl rfl rfl (Nat.le_of_ble_eq_true rfl) (by decide) (fun w3 k3 hX => ?_)
    have kp := kp.tr k3
    have hM := hM.kp k3 hr
    refine J_iload_n dL_areWays_592 rfl rfl ?_
    refine J_icmp_ne (tgt := 600) dL_areWays_593 (by decide) (fun h => absurd ((nI_eq (by omega) (by omega)).mpr (by omega)) h) (fun h593 => ?_)
    refine J_iconst (v := nI 1) dL_areWays_596 (by decide) ?_
    refine J_goto (tgt := 601) dL_areWays_597 (by decide) ?_
    exact J_ireturn dL_areWays_601 rfl narB1 (RP_i ⟨rfl, kp, hX⟩)
  | succ m ih =>
    intro a w1 o5 o6 o7 ha kp hX hM
    refine J.widen (kb' := (30 * n + (16 + (450 * m + 2))) + 0) (sb' := 6 * (30 * n + (16 + (450 * m + 2))) + 0) (by omega) (by omega) ?_
    refine J_iload dL_areWays_224 rfl ?_
    refine J_iload_n dL_areWays_226 rfl rfl ?_
    refine J_icmp_ge (tgt := 580) dL_areWays_227 (by decide) (fun h => absurd ((nI_leI (by omega) (by omega)).mp h) (by omega)) (fun h227 => ?_)
    refine J_iconst (v := nI 0) dL_areWays_230 (by decide) ?_
    refine J_istore dL_areWays_231 (by decide) rfl ?_
    refine aw_b hW hn hr (16 + (450 * m + 2)) a (by omega) ?_ n 0 _ _ _ (by omega) kp hX hM
    refine aw_n hW hn hr (450 * m + 2) a (by omega) ?_
    intro w1 o5 o6 o7 kp hX hM
    refine J_iinc (v := nI (a + 1)) dL_areWays_574 rfl (nI_succ _).symm (by decide) rfl ?_
    refine J_goto (tgt := 224) dL_areWays_577 (by decide) ?_
    exact ih (a + 1) _ _ _ _ (by omega) kp hX hM
set_option maxRecDepth 100000 in
theorem c_L_areWays {w : Wd} {x : Nat} {G : Gme} (hX : RepX w x G) : MC 41 mL_areWays 8000 50000 [.ref x] w (YQ w x G) := by
  refine MC_of pnL rfl (fun v hv => by simp only [List.mem_cons, List.not_mem_nil, or_false] at hv; rcases hv with rfl; rfl) (Nat.le_of_ble_eq_true rfl) (Or.inr (fun E w h => RP_no E w h)) ?_
  show J 41 mL_areWays 0 [some (.ref x), none, none, none, none, none, none, none] [] w 8000 50000 _
  have hW := hX.wf
  have hnb := hW.nb
  have kp := KP.rf w x
  generalize hn : sNb (gS G) = n at hnb
  have hnn : n * n ≤ 196 := Nat.mul_le_mul hnb hnb
  have h1 := fun (r : Nat) => aw_1 (w := w) (x := x) (r := r) (G := G) (n := n) hW hn.symm
  have h2 := fun (r : Nat) => aw_2 (w := w) (x := x) (r := r) (G := G) (n := n) hW hn.symm
  refine J.widen (kb' := ((90 * n + (450 * n + 2)) + (1 + n)) + 1) (sb' := (6 * (90 * n + (450 * n + 2)) + (n + n * n)) + 6) (by omega) (by omega) ?_
  refine J_aload_n dL_areWays_0 rfl rfl ?_
  refine K_hV (v := nI n) (kb := (90 * n + (450 * n + 2)) + (1 + n)) (sb := 6 * (90 * n + (450 * n + 2)) + (n + n * n)) dL_areWays_1 YX8_blockCount kL_225 hX.rc (c_X8_blockCount hX) (congrArg nI hn) rfl rfl (Nat.le_of_ble_eq_true rfl) (by decide) (fun w1 k1 hX => ?_)
  have kp := kp.tr k1
  refine J_istore_n dL_areWays_4 rfl (by decide) rfl ?_
  refine J_iload_n dL_areWays_5 rfl rfl ?_
  refine J_iload_n dL_areWays_6 rfl rfl ?_
  refine J_mna (N := n) dL_areWays_7 clL_315 ac_int (nI_pos (by omega)) (nI_clamp (by omega)) (by omega) (fun r w2 g1 g2 g3 g4 => ?_)
  have hr : x + 126 ≤ r := by have := g4 _ hX.lv.2; omega
  have hlo : ∀ b, w.1 b ≠ dead → b < r ∨ (x ≤ b ∧ b < x + 126) := fun b hb => by
    by_cases hq : b < x ∨ x + 126 ≤ b
    · exact Or.inl (g4 b (by rw [kp b hq hb]; exact hb))
    · exact Or.inr (by omega)
  have hlo : ∀ b, w.1 b ≠ dead → b < r := fun b hb => by rcases hlo b hb with q | q <;> omega
  have kp : KP w w2 x := fun b hb hb2 => (g3 b (hlo b hb2)).trans (kp b hb hb2)
  have hX : RepX w2 x G := hX.kp (fun b b1 b2 => g3 b (by omega))
  have hM : WM w2 r n (gS G) 0 0 := ⟨g1, fun i hi => ⟨_, g2 i hi, fun j hj hc => by omega⟩⟩
  refine J_astore_n dL_areWays_11 rfl (by decide) rfl ?_
  refine J_iconst (v := nI 0) dL_areWays_12 (by decide) ?_
  refine J_istore_n dL_areWays_13 rfl (by decide) rfl ?_
  refine J_iconst (v := nI 0) dL_areWays_14 (by decide) ?_
  refine J_istore dL_areWays_15 (by decide) rfl ?_
  refine h1 r hr hlo (450 * n + 2) ?_ n 0 w2 _ _ _ (by omega) kp hX hM
  intro w3 o5 o6 o7 kp hX hM
  refine J_iconst (v := nI 0) dL_areWays_221 (by decide) ?_
  refine J_istore dL_areWays_222 (by decide) rfl ?_
  exact h2 r hr hlo n 0 w3 _ _ _ (by omega) kp hX hM

end JWAY2

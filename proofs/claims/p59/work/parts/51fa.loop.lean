/-! THE LAW: its loop -/
section JLOOP
abbrev mL_law : MI := (yL_law, cL_law, 19, some .boolean, [])
/-- locals may be forgotten -/
def lcF : List (Option Value) → List Bool → List (Option Value)
  | o :: l, true :: m => o :: lcF l m
  | _ :: l, false :: m => none :: lcF l m
  | _, _ => []
theorem lcF_at : ∀ (l : List (Option Value)) (m : List Bool) (i : Nat) (v : Value), (lcF l m)[i]? = some (some v) → l[i]? = some (some v)
  | o :: l, true :: m, 0, v, h => h
  | o :: l, true :: m, i + 1, v, h => lcF_at l m i v h
  | o :: l, false :: m, 0, v, h => by cases h
  | o :: l, false :: m, i + 1, v, h => lcF_at l m i v h
  | [], [], i, v, h => by cases h
  | [], _ :: _, i, v, h => by cases h
  | _ :: _, [], i, v, h => by cases h
section
variable {d : Nat} {mi : MI} {pc : Nat} {lc : List (Option Value)} {st : List Value} {w : Wd} {kb sb : Nat} {Q : Po}
theorem J_forget (m : List Bool) (k : J d mi pc (lcF lc m) st w kb sb Q) : J d mi pc lc st w kb sb Q := by
  intro p l e R s m' args below meth c z sa D dA Z mc ms C h1 h2 h3 h4 h5 H locs cells slots ls hR hS hl h6 h7
  exact k p l e R s m' args below meth c z sa D dA Z mc ms C h1 h2 h3 h4 h5 H locs cells slots ls hR hS ⟨hl.1, hl.2.1, fun i v h => hl.2.2 i v (lcF_at _ _ _ _ h)⟩ h6 h7
theorem K_lput {a n k : Nat} {f : Nat → Int64} {x : Int64} (hd : decode mi.2.1 pc = .ok (.lastore, 1)) (ha : w.1 a = .inl (2, n, .inr (.inl f))) (hk : k < n) (hn : n < 2 ^ 31) (kk : ∀ w' : Wd, Up w w' a (.inl (2, n, .inr (.inl (va_up f k x)))) → J d mi (pc + 1) lc st w' kb sb Q) : J d mi pc lc (.long x :: .int (nI k) :: .ref a :: st) w kb sb Q := by
  refine K_lastore hd ha (vp_in_nI hk hn) ?_
  rw [nI_clamp (Nat.lt_trans hk hn)]
  exact kk
end
theorem wg_S0 : WG S0 0 := ⟨wf_S0, ⟨fun t ht => absurd ht (Nat.not_lt_zero t), fun t ht => absurd ht (Nat.not_lt_zero t), fun t ht => absurd ht (Nat.not_lt_zero t), fun t ht => absurd ht (Nat.not_lt_zero t)⟩⟩
theorem pass_facts {G : Gme} {tk : Nat} (h : WF (gS G)) (htk : tk < 8) (t : Nat) (hv : ¬ lvR (gMut G (oTick (gS G) (nI tk))) ≤ (-70 : Int32)) : ∃ kk, 1 ≤ tk ∧ kk ≤ 6 * tk ∧ (gMut G (oTick (gS G) (nI tk))).2.2 = gPush G (ticksN tk (gS G)) ∧ lvR (gMut G (oTick (gS G) (nI tk))) = nI kk ∧ sAr (ticksN tk (gS G)) = sAr (gS G) + nI kk ∧ sTk (ticksN tk (gS G)) = sTk (gS G) + nI tk ∧ (sGo (ticksN tk (gS G)) t = sGo (gS G) t ∨ (sGo (ticksN tk (gS G)) t = none ∧ 1 ≤ kk)) := by
  have ht : (nI tk).toInt = tk := nI_toInt (by omega)
  by_cases c : 1 ≤ tk
  · have e : oTick (gS G) (nI tk) = (0, sAr (ticksN tk (gS G)) - sAr (gS G), ticksN tk (gS G)) := by
      unfold oTick
      rw [if_pos ⟨by omega, by omega⟩, ht]
      rfl
    obtain ⟨kk, g1, g2, g3⟩ := go_ticks h t tk
    rw [e]
    refine ⟨kk, c, g1, rfl, ?_, g2, sTk_ticks _ _, g3⟩
    show (if (0 : Nat) = 0 then sAr (ticksN tk (gS G)) - sAr (gS G) else _) = _
    rw [if_pos rfl, g2, Int32.add_comm, Int32.add_sub_cancel]
  · exfalso
    apply hv
    have e : oTick (gS G) (nI tk) = (2, 0, gS G) := by
      unfold oTick
      rw [if_neg (by omega)]
    rw [e]
    show (if (2 : Nat) = 0 then (0 : Int32) else cdn 2) ≤ _
    decide
theorem nI_p5 (n : Nat) : nI (5 * n) + Int32.ofInt 5 = nI (5 * (n + 1)) := by
  rw [show Int32.ofInt 5 = nI 5 from rfl, nI_add]
  exact congrArg nI (by omega)
set_option maxRecDepth 100000 in
theorem lw_F0 {x a made n kn t tk kb sb : Nat} {bf : Int64} {ch y1 y2 ar ck v : Int32} {Q : Po} {w : Wd} {G' : Gme} (hX : RepX w x G')  (kk : ∀ w1, KP w w1 x → RepX w1 x G' → J 60 mL_law 390 [some (.ref 3), some (.ref x), some (.ref a), some (.int (nI made)), some (.int (nI (5 * n))), some (.int (nI n)), some (.long bf), none, some (.int ch), some (.int (nI kn)), some (.int (nI t)), some (.int (nI tk)), some (.int y2), some (.int ar), some (.int ck), some (.int y1), some (.int v), some (.int (nI 0)), some (.int (nI 1))] [] w1 (kb) (sb) Q) : J 60 mL_law 224 [some (.ref 3), some (.ref x), some (.ref a), some (.int (nI made)), some (.int (nI (5 * n))), some (.int (nI n)), some (.long bf), none, some (.int ch), some (.int (nI kn)), some (.int (nI t)), some (.int (nI tk)), some (.int y2), some (.int ar), some (.int ck), some (.int y1), some (.int v), some (.int (nI 0)), none] [] w (kb + 5) (sb + 30) Q := by
  have kp : KP w w x := KP.rf w x
  refine J_iload dL_law_224 rfl ?_
  refine J_if_eq (tgt := 253) dL_law_226 (by decide) (fun h => ?_) (fun h => absurd rfl h)
  refine J_iconst (v := nI 1) dL_law_253 (by decide) ?_
  refine J_goto (tgt := 258) dL_law_254 (by decide) ?_
  refine J_istore dL_law_258 (by decide) rfl ?_
  refine J_iload dL_law_260 rfl ?_
  refine J_iload dL_law_262 rfl ?_
  refine J_if_eq (tgt := 308) dL_law_264 (by decide) (fun h => ?_) (fun h => absurd rfl h)
  refine J_iconst (v := nI 1) dL_law_308 (by decide) ?_
  refine J_goto (tgt := 313) dL_law_309 (by decide) ?_
  refine K_iand (v := nI 1) dL_law_313 (by decide) ?_
  refine J_istore dL_law_314 (by decide) rfl ?_
  refine J_iload dL_law_316 rfl ?_
  refine J_iload dL_law_318 rfl ?_
  refine J_if_eq (tgt := 344) dL_law_320 (by decide) (fun h => ?_) (fun h => absurd rfl h)
  refine J_iconst (v := nI 1) dL_law_344 (by decide) ?_
  refine J_goto (tgt := 349) dL_law_345 (by decide) ?_
  refine K_iand (v := nI 1) dL_law_349 (by decide) ?_
  refine J_istore dL_law_350 (by decide) rfl ?_
  refine J_iload dL_law_352 rfl ?_
  refine J_iload dL_law_354 rfl ?_
  refine J_if_eq (tgt := 382) dL_law_356 (by decide) (fun h => ?_) (fun h => absurd rfl h)
  refine J_iconst (v := nI 1) dL_law_382 (by decide) ?_
  refine J_goto (tgt := 387) dL_law_383 (by decide) ?_
  refine K_iand (v := nI 1) dL_law_387 (by decide) ?_
  refine J_istore dL_law_388 (by decide) rfl ?_
  exact J.widen (by omega) (by omega) (kk _ kp hX)
set_option maxRecDepth 100000 in
theorem lw_F1 {x a made n kn t tk kb sb : Nat} {bf : Int64} {ch y1 y2 ar ck v : Int32} {Q : Po} {w : Wd} {G' : Gme} (hX : RepX w x G') (hck : sTk (gS G') = ck + nI tk) (har : sAr (gS G') = ar + v) (hy1 : y1 < 0) (hy2 : y2 ≤ nI tk) (kk : ∀ w1, KP w w1 x → RepX w1 x G' → J 60 mL_law 390 [some (.ref 3), some (.ref x), some (.ref a), some (.int (nI made)), some (.int (nI (5 * n))), some (.int (nI n)), some (.long bf), none, some (.int ch), some (.int (nI kn)), some (.int (nI t)), some (.int (nI tk)), some (.int y2), some (.int ar), some (.int ck), some (.int y1), some (.int v), some (.int (nI 1)), some (.int (nI 1))] [] w1 (kb) (sb) Q) : J 60 mL_law 224 [some (.ref 3), some (.ref x), some (.ref a), some (.int (nI made)), some (.int (nI (5 * n))), some (.int (nI n)), some (.long bf), none, some (.int ch), some (.int (nI kn)), some (.int (nI t)), some (.int (nI tk)), some (.int y2), some (.int ar), some (.int ck), some (.int y1), some (.int v), some (.int (nI 1)), none] [] w (kb + 5) (sb + 30) Q := by
  have kp : KP w w x := KP.rf w x
  refine J_iload dL_law_224 rfl ?_
  refine J_if_eq (tgt := 253) dL_law_226 (by decide) (fun h => absurd h (by decide)) (fun h => ?_)
  refine J_aload_n dL_law_229 rfl rfl ?_
  refine K_hV (v := sTk (gS G')) (kb := kb + 4) (sb := sb + 24) dL_law_230 YX8_ticks kL_208 hX.rc (c_X8_ticks hX) rfl rfl rfl (Nat.le_of_ble_eq_true rfl) (by decide) (fun w1 k1 hX => ?_)
  have kp := kp.tr k1
  refine J_iload dL_law_233 rfl ?_
  refine J_iload dL_law_235 rfl ?_
  refine K_iadd (v := sTk (gS G')) dL_law_237 hck.symm ?_
  refine J_icmp_ne (tgt := 257) dL_law_238 (by decide) (fun h => absurd rfl h) (fun h => ?_)
  refine J_aload_n dL_law_241 rfl rfl ?_
  refine K_hV (v := sAr (gS G')) (kb := kb + 3) (sb := sb + 18) dL_law_242 YX8_arrivals kL_205 hX.rc (c_X8_arrivals hX) rfl rfl rfl (Nat.le_of_ble_eq_true rfl) (by decide) (fun w2 k2 hX => ?_)
  have kp := kp.tr k2
  refine J_iload dL_law_245 rfl ?_
  refine J_iload dL_law_247 rfl ?_
  refine K_iadd (v := sAr (gS G')) dL_law_249 har.symm ?_
  refine J_icmp_ne (tgt := 257) dL_law_250 (by decide) (fun h => absurd rfl h) (fun h => ?_)
  refine J_iconst (v := nI 1) dL_law_253 (by decide) ?_
  refine J_goto (tgt := 258) dL_law_254 (by decide) ?_
  refine J_istore dL_law_258 (by decide) rfl ?_
  refine J_iload dL_law_260 rfl ?_
  refine J_iload dL_law_262 rfl ?_
  refine J_if_eq (tgt := 308) dL_law_264 (by decide) (fun h => absurd h (by decide)) (fun h => ?_)
  refine J_iload dL_law_267 rfl ?_
  refine J_if_lt (tgt := 308) dL_law_269 (by decide) (fun h => ?_) (fun h => absurd hy1 h)
  refine J_iconst (v := nI 1) dL_law_308 (by decide) ?_
  refine J_goto (tgt := 313) dL_law_309 (by decide) ?_
  refine K_iand (v := nI 1) dL_law_313 (by decide) ?_
  refine J_istore dL_law_314 (by decide) rfl ?_
  refine J_iload dL_law_316 rfl ?_
  refine J_iload dL_law_318 rfl ?_
  refine J_if_eq (tgt := 344) dL_law_320 (by decide) (fun h => absurd h (by decide)) (fun h => ?_)
  refine J_iload dL_law_323 rfl ?_
  refine J_iload dL_law_325 rfl ?_
  refine J_icmp_le (tgt := 344) dL_law_327 (by decide) (fun h => ?_) (fun h => absurd hy2 h)
  refine J_iconst (v := nI 1) dL_law_344 (by decide) ?_
  refine J_goto (tgt := 349) dL_law_345 (by decide) ?_
  refine K_iand (v := nI 1) dL_law_349 (by decide) ?_
  refine J_istore dL_law_350 (by decide) rfl ?_
  refine J_iload dL_law_352 rfl ?_
  refine J_iload dL_law_354 rfl ?_
  refine J_if_eq (tgt := 382) dL_law_356 (by decide) (fun h => absurd h (by decide)) (fun h => ?_)
  refine J_iload dL_law_359 rfl ?_
  refine J_if_lt (tgt := 382) dL_law_361 (by decide) (fun h => ?_) (fun h => absurd hy1 h)
  refine J_iconst (v := nI 1) dL_law_382 (by decide) ?_
  refine J_goto (tgt := 387) dL_law_383 (by decide) ?_
  refine K_iand (v := nI 1) dL_law_387 (by decide) ?_
  refine J_istore dL_law_388 (by decide) rfl ?_
  exact J.widen (by omega) (by omega) (kk _ kp hX)
theorem le_trans9 {y : Int32} {k : Nat} (h : y.toInt < 0 ∧ k < 100) : y ≤ nI k := by
  rw [le_nI' (by omega)]
  omega
set_option maxRecDepth 100000 in
theorem lw_F2 {x a made n kn t tk kb sb : Nat} {bf : Int64} {ch y1 y2 ar ck v : Int32} {Q : Po} {w : Wd} {G' : Gme} (hX : RepX w x G') (hck : sTk (gS G') = ck + nI tk) (har : sAr (gS G') = ar + v) (ht : t < sNt (gS G')) (g : Nat) (hg : g < 100) (hy1 : y1 = nI g) (htk : tk < 8) (hy2 : y2 = -75) (g9 : Nat) (hg9 : g9 < 100) (hgo : sGo (gS G') t = some g9) (kk : ∀ w1, KP w w1 x → RepX w1 x G' → J 60 mL_law 390 [some (.ref 3), some (.ref x), some (.ref a), some (.int (nI made)), some (.int (nI (5 * n))), some (.int (nI n)), some (.long bf), none, some (.int ch), some (.int (nI kn)), some (.int (nI t)), some (.int (nI tk)), some (.int y2), some (.int ar), some (.int ck), some (.int y1), some (.int v), some (.int (nI 1)), some (.int (nI 1))] [] w1 (kb) (sb) Q) : J 60 mL_law 224 [some (.ref 3), some (.ref x), some (.ref a), some (.int (nI made)), some (.int (nI (5 * n))), some (.int (nI n)), some (.long bf), none, some (.int ch), some (.int (nI kn)), some (.int (nI t)), some (.int (nI tk)), some (.int y2), some (.int ar), some (.int ck), some (.int y1), some (.int v), some (.int (nI 1)), none] [] w (kb + 5) (sb + 30) Q := by
  subst hy1
  subst hy2
  have kp : KP w w x := KP.rf w x
  refine J_iload dL_law_224 rfl ?_
  refine J_if_eq (tgt := 253) dL_law_226 (by decide) (fun h => absurd h (by decide)) (fun h => ?_)
  refine J_aload_n dL_law_229 rfl rfl ?_
  refine K_hV (v := sTk (gS G')) (kb := kb + 4) (sb := sb + 24) dL_law_230 YX8_ticks kL_208 hX.rc (c_X8_ticks hX) rfl rfl rfl (Nat.le_of_ble_eq_true rfl) (by decide) (fun w1 k1 hX => ?_)
  have kp := kp.tr k1
  refine J_iload dL_law_233 rfl ?_
  refine J_iload dL_law_235 rfl ?_
  refine K_iadd (v := sTk (gS G')) dL_law_237 hck.symm ?_
  refine J_icmp_ne (tgt := 257) dL_law_238 (by decide) (fun h => absurd rfl h) (fun h => ?_)
  refine J_aload_n dL_law_241 rfl rfl ?_
  refine K_hV (v := sAr (gS G')) (kb := kb + 3) (sb := sb + 18) dL_law_242 YX8_arrivals kL_205 hX.rc (c_X8_arrivals hX) rfl rfl rfl (Nat.le_of_ble_eq_true rfl) (by decide) (fun w2 k2 hX => ?_)
  have kp := kp.tr k2
  refine J_iload dL_law_245 rfl ?_
  refine J_iload dL_law_247 rfl ?_
  refine K_iadd (v := sAr (gS G')) dL_law_249 har.symm ?_
  refine J_icmp_ne (tgt := 257) dL_law_250 (by decide) (fun h => absurd rfl h) (fun h => ?_)
  refine J_iconst (v := nI 1) dL_law_253 (by decide) ?_
  refine J_goto (tgt := 258) dL_law_254 (by decide) ?_
  refine J_istore dL_law_258 (by decide) rfl ?_
  refine J_iload dL_law_260 rfl ?_
  refine J_iload dL_law_262 rfl ?_
  refine J_if_eq (tgt := 308) dL_law_264 (by decide) (fun h => absurd h (by decide)) (fun h => ?_)
  refine J_iload dL_law_267 rfl ?_
  refine J_if_lt (tgt := 308) dL_law_269 (by decide) (fun h => absurd h (nI_pos (by omega))) (fun h => ?_)
  refine J_aload_n dL_law_272 rfl rfl ?_
  refine J_iload dL_law_273 rfl ?_
  refine K_h (v := nI g9) (kb := kb + 2) (sb := sb + 12) dL_law_275 rfl YL_goal kL_211 (h_goal hX ht) (by rw [hgo]; rfl) rfl rfl (Nat.le_of_ble_eq_true rfl) (by decide) (fun w3 k3 hX => ?_)
  have kp := kp.tr k3
  refine J_bipush (v := (-75)) dL_law_278 (by decide) ?_
  refine J_icmp_ne (tgt := 287) dL_law_280 (by decide) (fun h => ?_) (fun h => absurd h (nI_ne_neg (by omega) (by decide)))
  refine J_iconst (v := nI 0) dL_law_287 (by decide) ?_
  refine J_iload dL_law_288 rfl ?_
  refine J_if_le (tgt := 304) dL_law_290 (by decide) (fun h => ?_) (fun h => absurd (by decide) h)
  refine J_iconst (v := nI 0) dL_law_304 (by decide) ?_
  refine J_icmp_ne (tgt := 312) dL_law_305 (by decide) (fun h => absurd rfl h) (fun h => ?_)
  refine J_iconst (v := nI 1) dL_law_308 (by decide) ?_
  refine J_goto (tgt := 313) dL_law_309 (by decide) ?_
  refine K_iand (v := nI 1) dL_law_313 (by decide) ?_
  refine J_istore dL_law_314 (by decide) rfl ?_
  refine J_iload dL_law_316 rfl ?_
  refine J_iload dL_law_318 rfl ?_
  refine J_if_eq (tgt := 344) dL_law_320 (by decide) (fun h => absurd h (by decide)) (fun h => ?_)
  refine J_iload dL_law_323 rfl ?_
  refine J_iload dL_law_325 rfl ?_
  refine J_icmp_le (tgt := 344) dL_law_327 (by decide) (fun h => ?_) (fun h => absurd (le_trans9 ⟨by decide, by omega⟩) h)
  refine J_iconst (v := nI 1) dL_law_344 (by decide) ?_
  refine J_goto (tgt := 349) dL_law_345 (by decide) ?_
  refine K_iand (v := nI 1) dL_law_349 (by decide) ?_
  refine J_istore dL_law_350 (by decide) rfl ?_
  refine J_iload dL_law_352 rfl ?_
  refine J_iload dL_law_354 rfl ?_
  refine J_if_eq (tgt := 382) dL_law_356 (by decide) (fun h => absurd h (by decide)) (fun h => ?_)
  refine J_iload dL_law_359 rfl ?_
  refine J_if_lt (tgt := 382) dL_law_361 (by decide) (fun h => absurd h (nI_pos (by omega))) (fun h => ?_)
  refine J_iload dL_law_364 rfl ?_
  refine J_if_lt (tgt := 382) dL_law_366 (by decide) (fun h => ?_) (fun h => absurd (by decide) h)
  refine J_iconst (v := nI 1) dL_law_382 (by decide) ?_
  refine J_goto (tgt := 387) dL_law_383 (by decide) ?_
  refine K_iand (v := nI 1) dL_law_387 (by decide) ?_
  refine J_istore dL_law_388 (by decide) rfl ?_
  exact J.widen (by omega) (by omega) (kk _ kp hX)
set_option maxRecDepth 100000 in
theorem lw_F3 {x a made n kn t tk kb sb : Nat} {bf : Int64} {ch y1 y2 ar ck v : Int32} {Q : Po} {w : Wd} {G' : Gme} (hX : RepX w x G') (hck : sTk (gS G') = ck + nI tk) (har : sAr (gS G') = ar + v) (ht : t < sNt (gS G')) (g : Nat) (hg : g < 100) (hy1 : y1 = nI g) (htk : tk < 8) (kq : Nat) (hkq : 1 ≤ kq ∧ kq ≤ tk) (hy2 : y2 = nI kq) (k9 : Nat) (hv : v = nI k9) (hk9 : 1 ≤ k9 ∧ k9 < 100) (hgo : sGo (gS G') t = none) (kk : ∀ w1, KP w w1 x → RepX w1 x G' → J 60 mL_law 390 [some (.ref 3), some (.ref x), some (.ref a), some (.int (nI made)), some (.int (nI (5 * n))), some (.int (nI n)), some (.long bf), none, some (.int ch), some (.int (nI kn)), some (.int (nI t)), some (.int (nI tk)), some (.int y2), some (.int ar), some (.int ck), some (.int y1), some (.int v), some (.int (nI 1)), some (.int (nI 1))] [] w1 (kb) (sb) Q) : J 60 mL_law 224 [some (.ref 3), some (.ref x), some (.ref a), some (.int (nI made)), some (.int (nI (5 * n))), some (.int (nI n)), some (.long bf), none, some (.int ch), some (.int (nI kn)), some (.int (nI t)), some (.int (nI tk)), some (.int y2), some (.int ar), some (.int ck), some (.int y1), some (.int v), some (.int (nI 1)), none] [] w (kb + 5) (sb + 30) Q := by
  subst hy1
  subst hy2
  subst hv
  have kp : KP w w x := KP.rf w x
  refine J_iload dL_law_224 rfl ?_
  refine J_if_eq (tgt := 253) dL_law_226 (by decide) (fun h => absurd h (by decide)) (fun h => ?_)
  refine J_aload_n dL_law_229 rfl rfl ?_
  refine K_hV (v := sTk (gS G')) (kb := kb + 4) (sb := sb + 24) dL_law_230 YX8_ticks kL_208 hX.rc (c_X8_ticks hX) rfl rfl rfl (Nat.le_of_ble_eq_true rfl) (by decide) (fun w1 k1 hX => ?_)
  have kp := kp.tr k1
  refine J_iload dL_law_233 rfl ?_
  refine J_iload dL_law_235 rfl ?_
  refine K_iadd (v := sTk (gS G')) dL_law_237 hck.symm ?_
  refine J_icmp_ne (tgt := 257) dL_law_238 (by decide) (fun h => absurd rfl h) (fun h => ?_)
  refine J_aload_n dL_law_241 rfl rfl ?_
  refine K_hV (v := sAr (gS G')) (kb := kb + 3) (sb := sb + 18) dL_law_242 YX8_arrivals kL_205 hX.rc (c_X8_arrivals hX) rfl rfl rfl (Nat.le_of_ble_eq_true rfl) (by decide) (fun w2 k2 hX => ?_)
  have kp := kp.tr k2
  refine J_iload dL_law_245 rfl ?_
  refine J_iload dL_law_247 rfl ?_
  refine K_iadd (v := sAr (gS G')) dL_law_249 har.symm ?_
  refine J_icmp_ne (tgt := 257) dL_law_250 (by decide) (fun h => absurd rfl h) (fun h => ?_)
  refine J_iconst (v := nI 1) dL_law_253 (by decide) ?_
  refine J_goto (tgt := 258) dL_law_254 (by decide) ?_
  refine J_istore dL_law_258 (by decide) rfl ?_
  refine J_iload dL_law_260 rfl ?_
  refine J_iload dL_law_262 rfl ?_
  refine J_if_eq (tgt := 308) dL_law_264 (by decide) (fun h => absurd h (by decide)) (fun h => ?_)
  refine J_iload dL_law_267 rfl ?_
  refine J_if_lt (tgt := 308) dL_law_269 (by decide) (fun h => absurd h (nI_pos (by omega))) (fun h => ?_)
  refine J_aload_n dL_law_272 rfl rfl ?_
  refine J_iload dL_law_273 rfl ?_
  refine K_h (v := (-75)) (kb := kb + 2) (sb := sb + 12) dL_law_275 rfl YL_goal kL_211 (h_goal hX ht) (by rw [hgo]; rfl) rfl rfl (Nat.le_of_ble_eq_true rfl) (by decide) (fun w3 k3 hX => ?_)
  have kp := kp.tr k3
  refine J_bipush (v := (-75)) dL_law_278 (by decide) ?_
  refine J_icmp_ne (tgt := 287) dL_law_280 (by decide) (fun h => absurd rfl h) (fun h => ?_)
  refine J_iconst (v := nI 1) dL_law_283 (by decide) ?_
  refine J_goto (tgt := 288) dL_law_284 (by decide) ?_
  refine J_iload dL_law_288 rfl ?_
  refine J_if_le (tgt := 304) dL_law_290 (by decide) (fun h => absurd ((nI_leI (b := 0) (by omega) (by omega)).mp h) (by omega)) (fun h => ?_)
  refine J_iload dL_law_293 rfl ?_
  refine J_iload dL_law_295 rfl ?_
  refine J_icmp_gt (tgt := 304) dL_law_297 (by decide) (fun h => absurd ((nI_ltI (by omega) (by omega)).mp h) (by omega)) (fun h => ?_)
  refine J_iconst (v := nI 1) dL_law_300 (by decide) ?_
  refine J_goto (tgt := 305) dL_law_301 (by decide) ?_
  refine J_icmp_ne (tgt := 312) dL_law_305 (by decide) (fun h => absurd rfl h) (fun h => ?_)
  refine J_iconst (v := nI 1) dL_law_308 (by decide) ?_
  refine J_goto (tgt := 313) dL_law_309 (by decide) ?_
  refine K_iand (v := nI 1) dL_law_313 (by decide) ?_
  refine J_istore dL_law_314 (by decide) rfl ?_
  refine J_iload dL_law_316 rfl ?_
  refine J_iload dL_law_318 rfl ?_
  refine J_if_eq (tgt := 344) dL_law_320 (by decide) (fun h => absurd h (by decide)) (fun h => ?_)
  refine J_iload dL_law_323 rfl ?_
  refine J_iload dL_law_325 rfl ?_
  refine J_icmp_le (tgt := 344) dL_law_327 (by decide) (fun h => ?_) (fun h => absurd ((nI_leI (by omega) (by omega)).mpr (by omega)) h)
  refine J_iconst (v := nI 1) dL_law_344 (by decide) ?_
  refine J_goto (tgt := 349) dL_law_345 (by decide) ?_
  refine K_iand (v := nI 1) dL_law_349 (by decide) ?_
  refine J_istore dL_law_350 (by decide) rfl ?_
  refine J_iload dL_law_352 rfl ?_
  refine J_iload dL_law_354 rfl ?_
  refine J_if_eq (tgt := 382) dL_law_356 (by decide) (fun h => absurd h (by decide)) (fun h => ?_)
  refine J_iload dL_law_359 rfl ?_
  refine J_if_lt (tgt := 382) dL_law_361 (by decide) (fun h => absurd h (nI_pos (by omega))) (fun h => ?_)
  refine J_iload dL_law_364 rfl ?_
  refine J_if_lt (tgt := 382) dL_law_366 (by decide) (fun h => absurd h (nI_pos (by omega))) (fun h => ?_)
  refine J_iload dL_law_369 rfl ?_
  refine J_iload dL_law_371 rfl ?_
  refine J_icmp_gt (tgt := 382) dL_law_373 (by decide) (fun h => absurd ((nI_ltI (by omega) (by omega)).mp h) (by omega)) (fun h => ?_)
  refine J_iload dL_law_376 rfl ?_
  refine J_iconst (v := nI 1) dL_law_378 (by decide) ?_
  refine J_icmp_lt (tgt := 386) dL_law_379 (by decide) (fun h => absurd ((nI_ltI (by omega) (by omega)).mp h) (by omega)) (fun h => ?_)
  refine J_iconst (v := nI 1) dL_law_382 (by decide) ?_
  refine J_goto (tgt := 387) dL_law_383 (by decide) ?_
  refine K_iand (v := nI 1) dL_law_387 (by decide) ?_
  refine J_istore dL_law_388 (by decide) rfl ?_
  exact J.widen (by omega) (by omega) (kk _ kp hX)
set_option maxRecDepth 100000 in
theorem lw_F4 {x a made n kn t tk kb sb : Nat} {bf : Int64} {ch y1 y2 ar ck v : Int32} {Q : Po} {w : Wd} {G' : Gme} (hX : RepX w x G') (hck : sTk (gS G') = ck + nI tk) (har : sAr (gS G') = ar + v) (ht : t < sNt (gS G')) (g : Nat) (hg : g < 100) (hy1 : y1 = nI g) (htk : tk < 8) (kq : Nat) (hkq : tk < kq ∧ kq < 100) (hy2 : y2 = nI kq) (g9 : Nat) (hg9 : g9 < 100) (hgo : sGo (gS G') t = some g9) (hta : aT (gS G') t = some (kq - tk)) (kk : ∀ w1, KP w w1 x → RepX w1 x G' → J 60 mL_law 390 [some (.ref 3), some (.ref x), some (.ref a), some (.int (nI made)), some (.int (nI (5 * n))), some (.int (nI n)), some (.long bf), none, some (.int ch), some (.int (nI kn)), some (.int (nI t)), some (.int (nI tk)), some (.int y2), some (.int ar), some (.int ck), some (.int y1), some (.int v), some (.int (nI 1)), some (.int (nI 1))] [] w1 (kb) (sb) Q) : J 60 mL_law 224 [some (.ref 3), some (.ref x), some (.ref a), some (.int (nI made)), some (.int (nI (5 * n))), some (.int (nI n)), some (.long bf), none, some (.int ch), some (.int (nI kn)), some (.int (nI t)), some (.int (nI tk)), some (.int y2), some (.int ar), some (.int ck), some (.int y1), some (.int v), some (.int (nI 1)), none] [] w (kb + 5) (sb + 30) Q := by
  subst hy1
  subst hy2
  have kp : KP w w x := KP.rf w x
  refine J_iload dL_law_224 rfl ?_
  refine J_if_eq (tgt := 253) dL_law_226 (by decide) (fun h => absurd h (by decide)) (fun h => ?_)
  refine J_aload_n dL_law_229 rfl rfl ?_
  refine K_hV (v := sTk (gS G')) (kb := kb + 4) (sb := sb + 24) dL_law_230 YX8_ticks kL_208 hX.rc (c_X8_ticks hX) rfl rfl rfl (Nat.le_of_ble_eq_true rfl) (by decide) (fun w1 k1 hX => ?_)
  have kp := kp.tr k1
  refine J_iload dL_law_233 rfl ?_
  refine J_iload dL_law_235 rfl ?_
  refine K_iadd (v := sTk (gS G')) dL_law_237 hck.symm ?_
  refine J_icmp_ne (tgt := 257) dL_law_238 (by decide) (fun h => absurd rfl h) (fun h => ?_)
  refine J_aload_n dL_law_241 rfl rfl ?_
  refine K_hV (v := sAr (gS G')) (kb := kb + 3) (sb := sb + 18) dL_law_242 YX8_arrivals kL_205 hX.rc (c_X8_arrivals hX) rfl rfl rfl (Nat.le_of_ble_eq_true rfl) (by decide) (fun w2 k2 hX => ?_)
  have kp := kp.tr k2
  refine J_iload dL_law_245 rfl ?_
  refine J_iload dL_law_247 rfl ?_
  refine K_iadd (v := sAr (gS G')) dL_law_249 har.symm ?_
  refine J_icmp_ne (tgt := 257) dL_law_250 (by decide) (fun h => absurd rfl h) (fun h => ?_)
  refine J_iconst (v := nI 1) dL_law_253 (by decide) ?_
  refine J_goto (tgt := 258) dL_law_254 (by decide) ?_
  refine J_istore dL_law_258 (by decide) rfl ?_
  refine J_iload dL_law_260 rfl ?_
  refine J_iload dL_law_262 rfl ?_
  refine J_if_eq (tgt := 308) dL_law_264 (by decide) (fun h => absurd h (by decide)) (fun h => ?_)
  refine J_iload dL_law_267 rfl ?_
  refine J_if_lt (tgt := 308) dL_law_269 (by decide) (fun h => absurd h (nI_pos (by omega))) (fun h => ?_)
  refine J_aload_n dL_law_272 rfl rfl ?_
  refine J_iload dL_law_273 rfl ?_
  refine K_h (v := nI g9) (kb := kb + 2) (sb := sb + 12) dL_law_275 rfl YL_goal kL_211 (h_goal hX ht) (by rw [hgo]; rfl) rfl rfl (Nat.le_of_ble_eq_true rfl) (by decide) (fun w3 k3 hX => ?_)
  have kp := kp.tr k3
  refine J_bipush (v := (-75)) dL_law_278 (by decide) ?_
  refine J_icmp_ne (tgt := 287) dL_law_280 (by decide) (fun h => ?_) (fun h => absurd h (nI_ne_neg (by omega) (by decide)))
  refine J_iconst (v := nI 0) dL_law_287 (by decide) ?_
  refine J_iload dL_law_288 rfl ?_
  refine J_if_le (tgt := 304) dL_law_290 (by decide) (fun h => absurd ((nI_leI (b := 0) (by omega) (by omega)).mp h) (by omega)) (fun h => ?_)
  refine J_iload dL_law_293 rfl ?_
  refine J_iload dL_law_295 rfl ?_
  refine J_icmp_gt (tgt := 304) dL_law_297 (by decide) (fun h => ?_) (fun h => absurd ((nI_ltI (by omega) (by omega)).mpr (by omega)) h)
  refine J_iconst (v := nI 0) dL_law_304 (by decide) ?_
  refine J_icmp_ne (tgt := 312) dL_law_305 (by decide) (fun h => absurd rfl h) (fun h => ?_)
  refine J_iconst (v := nI 1) dL_law_308 (by decide) ?_
  refine J_goto (tgt := 313) dL_law_309 (by decide) ?_
  refine K_iand (v := nI 1) dL_law_313 (by decide) ?_
  refine J_istore dL_law_314 (by decide) rfl ?_
  refine J_iload dL_law_316 rfl ?_
  refine J_iload dL_law_318 rfl ?_
  refine J_if_eq (tgt := 344) dL_law_320 (by decide) (fun h => absurd h (by decide)) (fun h => ?_)
  refine J_iload dL_law_323 rfl ?_
  refine J_iload dL_law_325 rfl ?_
  refine J_icmp_le (tgt := 344) dL_law_327 (by decide) (fun h => absurd ((nI_leI (by omega) (by omega)).mp h) (by omega)) (fun h => ?_)
  refine J_aload_n dL_law_330 rfl rfl ?_
  refine J_iload dL_law_331 rfl ?_
  refine K_h (v := nI (kq - tk)) (kb := kb + 1) (sb := sb + 6) dL_law_333 rfl YL_ticksUntilArrival kL_203 (h_ticksUntilArrival hX ht) (by rw [hta]; rfl) rfl rfl (Nat.le_of_ble_eq_true rfl) (by decide) (fun w4 k4 hX => ?_)
  have kp := kp.tr k4
  refine J_iload dL_law_336 rfl ?_
  refine J_iload dL_law_338 rfl ?_
  refine K_isub (v := nI (kq - tk)) dL_law_340 (nI_sub (by omega)) ?_
  refine J_icmp_ne (tgt := 348) dL_law_341 (by decide) (fun h => absurd rfl h) (fun h => ?_)
  refine J_iconst (v := nI 1) dL_law_344 (by decide) ?_
  refine J_goto (tgt := 349) dL_law_345 (by decide) ?_
  refine K_iand (v := nI 1) dL_law_349 (by decide) ?_
  refine J_istore dL_law_350 (by decide) rfl ?_
  refine J_iload dL_law_352 rfl ?_
  refine J_iload dL_law_354 rfl ?_
  refine J_if_eq (tgt := 382) dL_law_356 (by decide) (fun h => absurd h (by decide)) (fun h => ?_)
  refine J_iload dL_law_359 rfl ?_
  refine J_if_lt (tgt := 382) dL_law_361 (by decide) (fun h => absurd h (nI_pos (by omega))) (fun h => ?_)
  refine J_iload dL_law_364 rfl ?_
  refine J_if_lt (tgt := 382) dL_law_366 (by decide) (fun h => absurd h (nI_pos (by omega))) (fun h => ?_)
  refine J_iload dL_law_369 rfl ?_
  refine J_iload dL_law_371 rfl ?_
  refine J_icmp_gt (tgt := 382) dL_law_373 (by decide) (fun h => ?_) (fun h => absurd ((nI_ltI (by omega) (by omega)).mpr (by omega)) h)
  refine J_iconst (v := nI 1) dL_law_382 (by decide) ?_
  refine J_goto (tgt := 387) dL_law_383 (by decide) ?_
  refine K_iand (v := nI 1) dL_law_387 (by decide) ?_
  refine J_istore dL_law_388 (by decide) rfl ?_
  exact J.widen (by omega) (by omega) (kk _ kp hX)
set_option maxRecDepth 100000 in
theorem lw_E {x a made n kn t tk kb sb : Nat} {bf : Int64} {ch y1 y2 ar ck v : Int32} {Q : Po} {w : Wd} {G G' : Gme} (hX : RepX w x G') (hW : WF (gS G)) (hkn : kn < 50) (htk : tk < 8) (hps : 38 < kn → kn < 46 → G' = (gMut G (oTick (gS G) (nI tk))).2.2 ∧ v = lvR (gMut G (oTick (gS G) (nI tk)))) (har : ar = sAr (gS G)) (hck : ck = sTk (gS G)) (hy : (t < sNt (gS G) ∧ y1 = oV (sGo (gS G) t) ∧ y2 = oV (aT (gS G) t)) ∨ (y1 = -77 ∧ y2 = -77)) (kk : ∀ (ip : Int32) w1, KP w w1 x → RepX w1 x G' → J 60 mL_law 390 [some (.ref 3), some (.ref x), some (.ref a), some (.int (nI made)), some (.int (nI (5 * n))), some (.int (nI n)), some (.long bf), none, some (.int ch), some (.int (nI kn)), some (.int (nI t)), some (.int (nI tk)), some (.int y2), some (.int ar), some (.int ck), some (.int y1), some (.int v), some (.int (ip)), some (.int (nI 1))] [] w1 (kb) (sb) Q) : J 60 mL_law 196 [some (.ref 3), some (.ref x), some (.ref a), some (.int (nI made)), some (.int (nI (5 * n))), some (.int (nI n)), some (.long bf), none, some (.int ch), some (.int (nI kn)), some (.int (nI t)), some (.int (nI tk)), some (.int y2), some (.int ar), some (.int ck), some (.int y1), some (.int v), none, none] [] w (kb + 5) (sb + 30) Q := by
  refine J_iload dL_law_196 rfl ?_
  refine J_bipush (v := nI 38) dL_law_198 (by decide) ?_
  by_cases c1 : kn ≤ 38
  · refine J_icmp_le (tgt := 221) dL_law_200 (by decide) (fun h => ?_) (fun h => absurd ((nI_leI (by omega) (by omega)).mpr (by omega)) h)
    refine J_iconst (v := nI 0) dL_law_221 (by decide) ?_
    refine J_istore dL_law_222 (by decide) rfl ?_
    exact lw_F0 hX (fun w1 kp hX => kk _ w1 kp hX)
  · refine J_icmp_le (tgt := 221) dL_law_200 (by decide) (fun h => absurd ((nI_leI (by omega) (by omega)).mp h) (by omega)) (fun h => ?_)
    refine J_iload dL_law_203 rfl ?_
    refine J_bipush (v := nI 46) dL_law_205 (by decide) ?_
    by_cases c2 : 46 ≤ kn
    · refine J_icmp_ge (tgt := 221) dL_law_207 (by decide) (fun h => ?_) (fun h => absurd ((nI_leI (by omega) (by omega)).mpr (by omega)) h)
      refine J_iconst (v := nI 0) dL_law_221 (by decide) ?_
      refine J_istore dL_law_222 (by decide) rfl ?_
      exact lw_F0 hX (fun w1 kp hX => kk _ w1 kp hX)
    · refine J_icmp_ge (tgt := 221) dL_law_207 (by decide) (fun h => absurd ((nI_leI (by omega) (by omega)).mp h) (by omega)) (fun h => ?_)
      refine J_iload dL_law_210 rfl ?_
      refine J_bipush (v := (-70)) dL_law_212 (by decide) ?_
      by_cases c3 : v ≤ (-70 : Int32)
      · refine J_icmp_le (tgt := 221) dL_law_214 (by decide) (fun h => ?_) (fun h => absurd c3 h)
        refine J_iconst (v := nI 0) dL_law_221 (by decide) ?_
        refine J_istore dL_law_222 (by decide) rfl ?_
        exact lw_F0 hX (fun w1 kp hX => kk _ w1 kp hX)
      · refine J_icmp_le (tgt := 221) dL_law_214 (by decide) (fun h => absurd h c3) (fun h => ?_)
        refine J_iconst (v := nI 1) dL_law_217 (by decide) ?_
        refine J_goto (tgt := 222) dL_law_218 (by decide) ?_
        refine J_istore dL_law_222 (by decide) rfl ?_
        obtain ⟨e1, e2⟩ := hps (by omega) (by omega)
        rw [e2] at c3
        obtain ⟨k9, p1, p2, p3, p4, p5, p6, p7⟩ := pass_facts hW htk t c3
        have e1 := e1.trans p3
        have e2 := e2.trans p4
        have hS : gS G' = ticksN tk (gS G) := by rw [e1]; rfl
        have hck9 : sTk (gS G') = ck + nI tk := by rw [hS, p6, hck]
        have har9 : sAr (gS G') = ar + v := by rw [hS, p5, har, e2]
        have hkk := fun w1 (kp : KP w w1 x) (hX : RepX w1 x G') => kk (nI 1) w1 kp hX
        have hneg : y1 < 0 → y2 ≤ nI tk → J 60 mL_law 224 [some (.ref 3), some (.ref x), some (.ref a), some (.int (nI made)), some (.int (nI (5 * n))), some (.int (nI n)), some (.long bf), none, some (.int ch), some (.int (nI kn)), some (.int (nI t)), some (.int (nI tk)), some (.int y2), some (.int ar), some (.int ck), some (.int y1), some (.int v), some (.int (nI 1)), none] [] w (kb + 5) (sb + 30) Q := fun g1 g2 => lw_F1 hX hck9 har9 g1 g2 hkk
        rcases hy with ⟨ht, hy1, hy2⟩ | ⟨hy1, hy2⟩
        · have ht9 : t < sNt (gS G') := by rw [hS, (ticks_nn _ _).2]; exact ht
          cases hgo : sGo (gS G) t with
          | none =>
            have hta : aT (gS G) t = none := by unfold aT; rw [hgo]
            rw [hgo] at hy1
            rw [hta] at hy2
            exact hneg (by rw [hy1]; decide) (by rw [hy2]; exact le_trans9 ⟨by decide, by omega⟩)
          | some g =>
            have hgb : g < 100 := by
              have := hW.2.2.2.2.2.1 t ht g hgo
              have := hW.nb
              omega
            have hta : aT (gS G) t = tta (gS G) t := by unfold aT; rw [hgo]
            have hgn : sGo (gS G) t ≠ none := by rw [hgo]; exact fun q => by cases q
            rw [hgo] at hy1
            cases htt : tta (gS G) t with
            | none =>
              have hno := tta_no htt p1 (by omega)
              rw [hta, htt] at hy2
              cases hg9 : sGo (gS G') t with
              | none => exact absurd (by rw [← hS]; exact hg9) hno
              | some g9 =>
                have hb9 : g9 < 100 := by
                  have := hX.wf.2.2.2.2.2.1 t ht9 g9 hg9
                  have := hX.wf.nb
                  omega
                exact lw_F2 hX hck9 har9 ht9 g hgb hy1 htk hy2 g9 hb9 hg9 hkk
            | some kq =>
              have hkb := tta_lt htt
              have is := tta_is hW htt tk
              rw [hta, htt] at hy2
              by_cases c4 : kq ≤ tk
              · have hn9 : sGo (gS G') t = none := by rw [hS]; exact is.mpr (Or.inl c4)
                have hk1 : 1 ≤ k9 := by
                  rcases p7 with q | ⟨-, q⟩
                  · rw [← hS, hn9] at q
                    exact absurd q.symm hgn
                  · exact q
                exact lw_F3 hX hck9 har9 ht9 g hgb hy1 htk kq ⟨hkb.1, c4⟩ hy2 k9 e2 ⟨hk1, by omega⟩ hn9 hkk
              · cases hg9 : sGo (gS G') t with
                | none =>
                  rw [hS] at hg9
                  rcases is.mp hg9 with q | q
                  · exact absurd q c4
                  · exact absurd q hgn
                | some g9 =>
                  have hb9 : g9 < 100 := by
                    have := hX.wf.2.2.2.2.2.1 t ht9 g9 hg9
                    have := hX.wf.nb
                    omega
                  have hsh := tta_shift hW htt (show tk < kq by omega) hgn
                  exact lw_F4 hX hck9 har9 ht9 g hgb hy1 htk kq ⟨by omega, by omega⟩ hy2 g9 hb9 hg9 (by unfold aT; rw [hg9, hS]; exact hsh) hkk
        · exact hneg (by rw [hy1]; decide) (by rw [hy2]; exact le_trans9 ⟨by decide, by omega⟩)
end JLOOP

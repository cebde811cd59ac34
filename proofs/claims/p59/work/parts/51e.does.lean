/-! THE LAW: does -/
section JDOES
theorem KB.rep {w w' : Wd} {x b a : Nat} {G : Gme} (hX : RepX w x G) (k : KB w w' b a) (hb : x + 126 ≤ b) (ha : x + 126 ≤ a) : RepX w' x G := hX.kp (fun c h1 h2 => k.2 c ⟨x + 125, by omega, hX.lv.2⟩ (by omega) (by omega))
theorem KP.kb {w0 w w' : Wd} {x b a : Nat} (kp : KP w0 w x) (k : KB w w' b a) (hb : w0.1 b = dead) (ha : w0.1 a = dead) : KP w0 w' x := fun c hc hd => (k.2 c ⟨c, Nat.le_refl _, by rw [kp c hc hd]; exact hd⟩ (fun e => hd (by rw [e]; exact hb)) (fun e => hd (by rw [e]; exact ha))).trans (kp c hc hd)
theorem KPdead {w0 w : Wd} {x b : Nat} (kp : KP w0 w x) (hb : x + 126 ≤ b) (h : w.1 b = dead) : w0.1 b = dead := by
  by_cases e : w0.1 b = dead
  · exact e
  · rw [← kp b (Or.inr hb) e]
    exact h
/-- a builder beside the railway, new since w0 -/
def TBu (w0 w : Wd) (x : Nat) (G : Gme) (b a n : Nat) : Prop := KP w0 w x ∧ RepX w x G ∧ SBo w b a n ∧ w0.1 b = dead ∧ w0.1 a = dead ∧ x + 126 ≤ b ∧ x + 126 ≤ a
theorem TBu.kb {w0 w w' : Wd} {x b a n n' : Nat} {G : Gme} (h : TBu w0 w x G b a n) (k : KB w w' b a) (h2 : SBo w' b a n') : TBu w0 w' x G b a n' := by
  obtain ⟨h0, hX, -, h3, h4, h5, h6⟩ := h
  exact ⟨h0.kb k h3 h4, k.rep hX h5 h6, h2, h3, h4, h5, h6⟩
/-- another builder stays -/
def OS (w w' : Wd) (b a : Nat) : Prop := ∀ b1 a1 n1, SBo w b1 a1 n1 → b1 ≠ b → b1 ≠ a → a1 ≠ b → a1 ≠ a → SBo w' b1 a1 n1
theorem KB.os {w w' : Wd} {b a : Nat} (k : KB w w' b a) : OS w w' b a := fun b1 a1 n1 h g1 g2 g3 g4 => h.kb k ⟨g1, g2⟩ ⟨g3, g4⟩
section
variable {d : Nat} {mi : MI} {pc : Nat} {lc : List (Option Value)} {st : List Value} {w : Wd} {kb sb : Nat} {Q : Po}
theorem K_nsb {i1 i2 : Nat} {w0 : Wd} {x : Nat} {G : Gme} (h1 : decode mi.2.1 pc = .ok (.new i1, 3)) (h2 : decode mi.2.1 (pc + 3) = .ok (.dup, 1)) (h3 : decode mi.2.1 (pc + 3 + 1) = .ok (.invokespecial i2, 3)) (hN : NL mi.1.cls i1 9 4 [.null, .int 0, .int 0, .int 0]) (hL : Cond.methodLink mi.1.cls i2 yJ4_init_da8c8 ∈ AL ∧ Cond.instanceMethod yJ4_init_da8c8 ∈ AL) (kp : KP w0 w x) (hX : RepX w x G) (hcat : ((Value.ref 0 :: st).map fun v => v.category).sum ≤ 8) (hdd : 4 ≤ d)
    (kk : ∀ (b a : Nat) (w' : Wd), TBu w0 w' x G b a 0 → (∀ b1 a1 n1, SBo w b1 a1 n1 → SBo w' b1 a1 n1 ∧ b1 ≠ b ∧ a1 ≠ b ∧ b1 ≠ a ∧ a1 ≠ a) → J d mi (pc + 3 + 1 + 3) lc (.ref b :: st) w' kb sb Q) : J d mi pc lc st w (kb + 2) (sb + 20) Q := by
  refine F_new (kb := kb + 1) (sb := sb + 16) h1 hN (fun b w1 q1 => ?_)
  refine J_dup h2 rfl ?_
  refine K_tI h3 YJ4_init_da8c8 rfl rfl hL (t_J4_init q1.1) rfl rfl hcat hdd (fun r w2 q2 => ?_)
  obtain ⟨rfl, a, g1, g2, g3, g4⟩ := q2
  have l1 := q1.2.2.2.2 _ hX.lv.2
  have hba : b < a := g3 b (by rw [q1.1]; exact nd_r9)
  have kb2 : KB w w2 b a := (KB.new q1 nd_r9 b a).tr g4
  have d1 : w0.1 b = dead := KPdead kp (by omega) q1.2.1
  have d2 : w0.1 a = dead := KPdead kp (by omega) (by rw [← q1.2.2.1 a (by omega)]; exact g2)
  refine kk b a w2 ⟨kp.kb kb2 d1 d2, kb2.rep hX (by omega) (by omega), g1, d1, d2, by omega, by omega⟩ (fun b1 a1 n1 h => ?_)
  have e1 := q1.2.2.2.2 _ h.lv.1
  have e2 := q1.2.2.2.2 _ h.lv.2
  exact ⟨h.kb kb2 ⟨by omega, by omega⟩ ⟨by omega, by omega⟩, by omega, by omega, by omega, by omega⟩
theorem K_aps {idx : Nat} {w0 : Wd} {x b a n s v k : Nat} {G : Gme} {f9 : Nat → Int32} (hd : decode mi.2.1 pc = .ok (.invokevirtual idx, 3)) (hL : Cond.methodLink mi.1.cls idx yJ4_append_15ec4 ∈ AL ∧ Cond.instanceMethod yJ4_append_15ec4 ∈ AL ∧ Cond.selects mJ4_append_15ec4.1.cls yJ4_append_15ec4 yJ4_append_15ec4 ∈ AL) (h : TBu w0 w x G b a n) (hs : VStr w s v k f9) (hk : n + k ≤ 16) (hcat : (st.map fun v => v.category).sum ≤ 8) (hdd : 7 ≤ d)
    (kk : ∀ w' : Wd, TBu w0 w' x G b a (n + k) → OS w w' b a → J d mi (pc + 3) lc (.ref b :: st) w' kb sb Q) : J d mi pc lc (.ref s :: .ref b :: st) w kb sb Q := by
  refine K_tV (kb := kb) (sb := sb) (kb' := 0) (sb' := 0) (As := [.ref s]) hd YJ4_append_15ec4 hL h.2.2.1.rc (t_append h.2.2.1 hs hk) rfl rfl hcat hdd (fun r w1 q1 => ?_)
  obtain ⟨rfl, q1, q2⟩ := q1
  exact kk w1 (h.kb q2 q1) q2.os
theorem K_api {idx : Nat} {w0 : Wd} {x b a n j m : Nat} {G : Gme} (hd : decode mi.2.1 pc = .ok (.invokevirtual idx, 3)) (hL : Cond.methodLink mi.1.cls idx yJ4_append_bf812 ∈ AL ∧ Cond.instanceMethod yJ4_append_bf812 ∈ AL ∧ Cond.selects mJ4_append_bf812.1.cls yJ4_append_bf812 yJ4_append_bf812 ∈ AL) (h : TBu w0 w x G b a n) (hj : j < 100) (hm : szN j = m) (hk : n + m ≤ 16) (hcat : (st.map fun v => v.category).sum ≤ 8) (hdd : 5 ≤ d)
    (kk : ∀ w' : Wd, TBu w0 w' x G b a (n + m) → OS w w' b a → J d mi (pc + 3) lc (.ref b :: st) w' kb sb Q) : J d mi pc lc (.int (nI j) :: .ref b :: st) w kb sb Q := by
  subst hm
  refine K_tV (kb := kb) (sb := sb) (kb' := 0) (sb' := 0) (As := [.int (nI j)]) hd YJ4_append_bf812 hL h.2.2.1.rc (t_appendI h.2.2.1 hj hk) rfl rfl hcat hdd (fun r w1 q1 => ?_)
  obtain ⟨rfl, q1, q2⟩ := q1
  exact kk w1 (h.kb q2 q1) q2.os
theorem K_tos {idx : Nat} {w0 : Wd} {x b a n : Nat} {G : Gme} (hd : decode mi.2.1 pc = .ok (.invokevirtual idx, 3)) (hL : Cond.methodLink mi.1.cls idx yJ4_toString_0e30d ∈ AL ∧ Cond.instanceMethod yJ4_toString_0e30d ∈ AL ∧ Cond.selects mJ4_toString_0e30d.1.cls yJ4_toString_0e30d yJ4_toString_0e30d ∈ AL) (h : TBu w0 w x G b a n) (hn : n ≤ 16) (hcat : (st.map fun v => v.category).sum ≤ 8) (hdd : 8 ≤ d)
    (kk : ∀ (s v : Nat) (g : Nat → Int32) (w' : Wd), KP w0 w' x → RepX w' x G → VStr w' s v n g → w'.1 v = .inl (3, n, .inl g) → (∃ y z, w'.1 s = .inr (0, [.ref v, .int 0, y, z])) → x + 126 ≤ s → x + 126 ≤ v → OS w w' b a → J d mi (pc + 3) lc (.ref s :: st) w' kb sb Q) : J d mi pc lc (.ref b :: st) w (kb + 2) (sb + 20) Q := by
  refine J.widen (kb' := kb + 2) (sb' := sb + (n + 4)) (Nat.le_refl _) (by omega) ?_
  refine K_tV (kb := kb) (sb := sb) (As := []) hd YJ4_toString_0e30d hL h.2.2.1.rc (t_toString h.2.2.1 hn) rfl rfl hcat hdd (fun r w1 q1 => ?_)
  obtain ⟨s, v, g, rfl, g1, g2, g3, g4, g5, g6⟩ := q1
  obtain ⟨h0, hX, h2, h3, h4, h5, h6⟩ := h
  have l1 := g5 _ hX.lv.2
  exact kk s v g w1 (h0.kb g6 h3 h4) (g6.rep hX h5 h6) g1 g3 g4 (by omega) (by omega) g6.os
end
def DE (w : Wd) (x : Nat) (G : Gme) (K kn tk : Nat) : Po := RP (fun r w' => ∃ G' v, r = some (.int v) ∧ KP w w' x ∧ RepX w' x G' ∧ DP G G' K v ∧ (38 < kn → kn < 46 → G' = (gMut G (oTick (gS G) (nI tk))).2.2 ∧ v = lvR (gMut G (oTick (gS G) (nI tk)))))
abbrev tsO : Array Int := #[197, 197, 197, 197, 248, 248, 248, 248, 248, 248, 248, 248, 257, 266, 273, 273, 273, 273, 285, 285, 285, 285, 285, 285, 285, 285, 285, 285, 294, 301, 301, 301, 301, 301, 310, 317, 324, 324, 324, 331, 331, 331, 331, 331, 331, 331]
theorem ts_280 : ∀ q, q < 4 → 0 ≤ q → tsO[((nI q).toInt - 0).toNat]? = some 197 := by decide +kernel
theorem ts_331 : ∀ q, q < 12 → 4 ≤ q → tsO[((nI q).toInt - 0).toNat]? = some 248 := by decide +kernel
theorem ts_340 : ∀ q, q < 13 → 12 ≤ q → tsO[((nI q).toInt - 0).toNat]? = some 257 := by decide +kernel
theorem ts_349 : ∀ q, q < 14 → 13 ≤ q → tsO[((nI q).toInt - 0).toNat]? = some 266 := by decide +kernel
theorem ts_356 : ∀ q, q < 18 → 14 ≤ q → tsO[((nI q).toInt - 0).toNat]? = some 273 := by decide +kernel
theorem ts_368 : ∀ q, q < 28 → 18 ≤ q → tsO[((nI q).toInt - 0).toNat]? = some 285 := by decide +kernel
theorem ts_377 : ∀ q, q < 29 → 28 ≤ q → tsO[((nI q).toInt - 0).toNat]? = some 294 := by decide +kernel
theorem ts_384 : ∀ q, q < 34 → 29 ≤ q → tsO[((nI q).toInt - 0).toNat]? = some 301 := by decide +kernel
theorem ts_393 : ∀ q, q < 35 → 34 ≤ q → tsO[((nI q).toInt - 0).toNat]? = some 310 := by decide +kernel
theorem ts_400 : ∀ q, q < 36 → 35 ≤ q → tsO[((nI q).toInt - 0).toNat]? = some 317 := by decide +kernel
theorem ts_407 : ∀ q, q < 39 → 36 ≤ q → tsO[((nI q).toInt - 0).toNat]? = some 324 := by decide +kernel
theorem ts_414 : ∀ q, q < 46 → 39 ≤ q → tsO[((nI q).toInt - 0).toNat]? = some 331 := by decide +kernel
theorem ts_r : ∀ q, q < 50 → ¬ (nI q).toInt < 0 ∧ ((45 : Int) < (nI q).toInt ↔ 46 ≤ q) := by decide +kernel
set_option maxRecDepth 100000 in
theorem c_d_287 {w w1 : Wd} {x k kn t tk K v xx m b : Nat} {G : Gme} (hg : WG (gS G) K) (ht : t ≤ sNt (gS G)) (hv : v < 1000) (hxx : xx < 1000) (hm1 : 1 ≤ m) (hm2 : m ≤ sNb (gS G) + 1) (hb : b < m) (kp : KP w w1 x) (hX : RepX w1 x G) (hno : 38 < kn → kn < 46 → False) : J 18 mL_does 287 [some (.ref 3), some (.int (nI k)), some (.int (nI kn)), some (.ref x), some (.int (nI t)), some (.int (nI tk)), some (.int (nI v)), some (.int (nI xx)), some (.int (nI m)), some (.int (nI (xx % m))), some (.int (nI b))] [] w1 48 288 (DE w x G K kn tk) := by
  have hnb := hg.1.nb
  have hnt := hg.1.nt
  have ha : xx % m < m := Nat.mod_lt _ (by omega)
  refine J_aload_n dL_does_287 rfl rfl ?_
  refine J_iload dL_does_288 rfl ?_
  refine J_iload dL_does_290 rfl ?_
  refine J_iconst (v := nI 5) dL_does_292 (by decide) ?_
  refine K_irem (v := nI (v % 5)) dL_does_293 (nI_ne0 (by omega) (by omega)) (pk_rem (by omega) (by omega) (by omega)) ?_
  by_cases e5 : v % 5 = 0
  · skip
    refine J_if_ne (tgt := 302) dL_does_294 (by decide) (fun h => absurd (congrArg nI e5) h) (fun h => ?_)
    refine J_bipush (v := nI 11) dL_does_297 (by decide) ?_
    refine J_goto (tgt := 303) dL_does_299 (by decide) ?_
    refine K_irem (v := nI (xx % 11)) dL_does_303 (nI_ne0 (by omega) (by omega)) (pk_rem (by omega) (by omega) (by omega)) ?_
    refine K_sch (kb := 47) (sb := 282) dL_does_304 rfl YL_addCushion kL_228 (c_L_addCushion hX (nI (xx % 11))) rfl rfl (Nat.le_of_ble_eq_true rfl) (by decide) (fun r9 w9 q9 => ?_)
    obtain ⟨rfl, k9, hX⟩ := q9
    refine J_goto (tgt := 330) dL_does_307 (by decide) ?_
    exact J_ireturn dL_does_330 rfl rfl (RP_i ⟨_, _, rfl, kp.tr k9, hX, mut_dp (rok_add hg.1 _ _) ((wg_add hg _ _).mono (by omega)), fun g1 g2 => (hno g1 g2).elim⟩)
  · skip
    refine J_if_ne (tgt := 302) dL_does_294 (by decide) (fun h => ?_) (fun h => absurd (nI_inj (b := 0) (by omega) (by omega) h) e5)
    refine J_iconst (v := nI 3) dL_does_302 (by decide) ?_
    refine K_irem (v := nI (xx % 3)) dL_does_303 (nI_ne0 (by omega) (by omega)) (pk_rem (by omega) (by omega) (by omega)) ?_
    refine K_sch (kb := 47) (sb := 282) dL_does_304 rfl YL_addCushion kL_228 (c_L_addCushion hX (nI (xx % 3))) rfl rfl (Nat.le_of_ble_eq_true rfl) (by decide) (fun r9 w9 q9 => ?_)
    obtain ⟨rfl, k9, hX⟩ := q9
    refine J_goto (tgt := 330) dL_does_307 (by decide) ?_
    exact J_ireturn dL_does_330 rfl rfl (RP_i ⟨_, _, rfl, kp.tr k9, hX, mut_dp (rok_add hg.1 _ _) ((wg_add hg _ _).mono (by omega)), fun g1 g2 => (hno g1 g2).elim⟩)
set_option maxRecDepth 100000 in
theorem c_d_310 {w w1 : Wd} {x k kn t tk K v xx m b : Nat} {G : Gme} (hg : WG (gS G) K) (ht : t ≤ sNt (gS G)) (hv : v < 1000) (hxx : xx < 1000) (hm1 : 1 ≤ m) (hm2 : m ≤ sNb (gS G) + 1) (hb : b < m) (kp : KP w w1 x) (hX : RepX w1 x G) (hno : 38 < kn → kn < 46 → False) : J 18 mL_does 310 [some (.ref 3), some (.int (nI k)), some (.int (nI kn)), some (.ref x), some (.int (nI t)), some (.int (nI tk)), some (.int (nI v)), some (.int (nI xx)), some (.int (nI m)), some (.int (nI (xx % m))), some (.int (nI b))] [] w1 48 288 (DE w x G K kn tk) := by
  have hnb := hg.1.nb
  have hnt := hg.1.nt
  have ha : xx % m < m := Nat.mod_lt _ (by omega)
  refine J_aload_n dL_does_310 rfl rfl ?_
  refine J_iload dL_does_311 rfl ?_
  refine J_iload dL_does_313 rfl ?_
  refine J_iconst (v := nI 5) dL_does_315 (by decide) ?_
  refine K_irem (v := nI (v % 5)) dL_does_316 (nI_ne0 (by omega) (by omega)) (pk_rem (by omega) (by omega) (by omega)) ?_
  by_cases e5 : v % 5 = 0
  · skip
    refine J_if_ne (tgt := 325) dL_does_317 (by decide) (fun h => absurd (congrArg nI e5) h) (fun h => ?_)
    refine J_bipush (v := nI 11) dL_does_320 (by decide) ?_
    refine J_goto (tgt := 326) dL_does_322 (by decide) ?_
    refine K_irem (v := nI (xx % 11)) dL_does_326 (nI_ne0 (by omega) (by omega)) (pk_rem (by omega) (by omega) (by omega)) ?_
    refine K_sch (kb := 47) (sb := 282) dL_does_327 rfl YL_addBlock kL_230 (c_L_addBlock hX (nI (xx % 11))) rfl rfl (Nat.le_of_ble_eq_true rfl) (by decide) (fun r9 w9 q9 => ?_)
    obtain ⟨rfl, k9, hX⟩ := q9
    exact J_ireturn dL_does_330 rfl rfl (RP_i ⟨_, _, rfl, kp.tr k9, hX, mut_dp (rok_add hg.1 _ _) ((wg_add hg _ _).mono (by omega)), fun g1 g2 => (hno g1 g2).elim⟩)
  · skip
    refine J_if_ne (tgt := 325) dL_does_317 (by decide) (fun h => ?_) (fun h => absurd (nI_inj (b := 0) (by omega) (by omega) h) e5)
    refine J_iconst (v := nI 3) dL_does_325 (by decide) ?_
    refine K_irem (v := nI (xx % 3)) dL_does_326 (nI_ne0 (by omega) (by omega)) (pk_rem (by omega) (by omega) (by omega)) ?_
    refine K_sch (kb := 47) (sb := 282) dL_does_327 rfl YL_addBlock kL_230 (c_L_addBlock hX (nI (xx % 3))) rfl rfl (Nat.le_of_ble_eq_true rfl) (by decide) (fun r9 w9 q9 => ?_)
    obtain ⟨rfl, k9, hX⟩ := q9
    exact J_ireturn dL_does_330 rfl rfl (RP_i ⟨_, _, rfl, kp.tr k9, hX, mut_dp (rok_add hg.1 _ _) ((wg_add hg _ _).mono (by omega)), fun g1 g2 => (hno g1 g2).elim⟩)
set_option maxRecDepth 100000 in
theorem c_d_280 {w w1 : Wd} {x k kn t tk K v xx m b : Nat} {G : Gme} (hg : WG (gS G) K) (ht : t ≤ sNt (gS G)) (hv : v < 1000) (hxx : xx < 1000) (hm1 : 1 ≤ m) (hm2 : m ≤ sNb (gS G) + 1) (hb : b < m) (kp : KP w w1 x) (hX : RepX w1 x G) (hno : 38 < kn → kn < 46 → False) : J 18 mL_does 280 [some (.ref 3), some (.int (nI k)), some (.int (nI kn)), some (.ref x), some (.int (nI t)), some (.int (nI tk)), some (.int (nI v)), some (.int (nI xx)), some (.int (nI m)), some (.int (nI (xx % m))), some (.int (nI b))] [] w1 48 288 (DE w x G K kn tk) := by
  have hnb := hg.1.nb
  have hnt := hg.1.nt
  have ha : xx % m < m := Nat.mod_lt _ (by omega)
  refine J_iload dL_does_280 rfl ?_
  refine J_iconst (v := nI 2) dL_does_282 (by decide) ?_
  refine K_irem (v := nI (v % 2)) dL_does_283 (nI_ne0 (by omega) (by omega)) (pk_rem (by omega) (by omega) (by omega)) ?_
  by_cases e2 : v % 2 = 0
  · exact J_if_ne (tgt := 310) dL_does_284 (by decide) (fun h => absurd (congrArg nI e2) h) (fun h => c_d_287 hg ht hv hxx hm1 hm2 hb kp hX hno)
  · exact J_if_ne (tgt := 310) dL_does_284 (by decide) (fun h => c_d_310 hg ht hv hxx hm1 hm2 hb kp hX hno) (fun h => absurd (nI_inj (b := 0) (by omega) (by omega) h) e2)
set_option maxRecDepth 100000 in
theorem c_d_331 {w w1 : Wd} {x k kn t tk K v xx m b : Nat} {G : Gme} (hg : WG (gS G) K) (ht : t ≤ sNt (gS G)) (hv : v < 1000) (hxx : xx < 1000) (hm1 : 1 ≤ m) (hm2 : m ≤ sNb (gS G) + 1) (hb : b < m) (kp : KP w w1 x) (hX : RepX w1 x G) (hno : 38 < kn → kn < 46 → False) : J 18 mL_does 331 [some (.ref 3), some (.int (nI k)), some (.int (nI kn)), some (.ref x), some (.int (nI t)), some (.int (nI tk)), some (.int (nI v)), some (.int (nI xx)), some (.int (nI m)), some (.int (nI (xx % m))), some (.int (nI b))] [] w1 48 288 (DE w x G K kn tk) := by
  have hnb := hg.1.nb
  have hnt := hg.1.nt
  have ha : xx % m < m := Nat.mod_lt _ (by omega)
  refine J_aload_n dL_does_331 rfl rfl ?_
  refine J_iload dL_does_332 rfl ?_
  refine J_iload dL_does_334 rfl ?_
  refine K_sch (kb := 47) (sb := 282) dL_does_336 rfl YL_link kL_232 (c_L_link hX (nI (xx % m)) (nI b)) rfl rfl (Nat.le_of_ble_eq_true rfl) (by decide) (fun r9 w9 q9 => ?_)
  obtain ⟨rfl, k9, hX⟩ := q9
  exact J_ireturn dL_does_339 rfl rfl (RP_i ⟨_, _, rfl, kp.tr k9, hX, mut_dp (rok_join hg.1 _ _) ((wg_join hg _ _).mono (by omega)), fun g1 g2 => (hno g1 g2).elim⟩)
set_option maxRecDepth 100000 in
theorem c_d_340 {w w1 : Wd} {x k kn t tk K v xx m b : Nat} {G : Gme} (hg : WG (gS G) K) (ht : t ≤ sNt (gS G)) (hv : v < 1000) (hxx : xx < 1000) (hm1 : 1 ≤ m) (hm2 : m ≤ sNb (gS G) + 1) (hb : b < m) (kp : KP w w1 x) (hX : RepX w1 x G) (hno : 38 < kn → kn < 46 → False) : J 18 mL_does 340 [some (.ref 3), some (.int (nI k)), some (.int (nI kn)), some (.ref x), some (.int (nI t)), some (.int (nI tk)), some (.int (nI v)), some (.int (nI xx)), some (.int (nI m)), some (.int (nI (xx % m))), some (.int (nI b))] [] w1 48 288 (DE w x G K kn tk) := by
  have hnb := hg.1.nb
  have hnt := hg.1.nt
  have ha : xx % m < m := Nat.mod_lt _ (by omega)
  refine J_aload_n dL_does_340 rfl rfl ?_
  refine J_iload dL_does_341 rfl ?_
  refine J_iload dL_does_343 rfl ?_
  refine K_sch (kb := 47) (sb := 282) dL_does_345 rfl YL_unlink kL_235 (c_L_unlink hX (nI (xx % m)) (nI b)) rfl rfl (Nat.le_of_ble_eq_true rfl) (by decide) (fun r9 w9 q9 => ?_)
  obtain ⟨rfl, k9, hX⟩ := q9
  exact J_ireturn dL_does_348 rfl rfl (RP_i ⟨_, _, rfl, kp.tr k9, hX, mut_dp (rok_part hg.1 _ _) ((wg_part hg _ _).mono (by omega)), fun g1 g2 => (hno g1 g2).elim⟩)
set_option maxRecDepth 100000 in
theorem c_d_349 {w w1 : Wd} {x k kn t tk K v xx m b : Nat} {G : Gme} (hg : WG (gS G) K) (ht : t ≤ sNt (gS G)) (hv : v < 1000) (hxx : xx < 1000) (hm1 : 1 ≤ m) (hm2 : m ≤ sNb (gS G) + 1) (hb : b < m) (kp : KP w w1 x) (hX : RepX w1 x G) (hno : 38 < kn → kn < 46 → False) : J 18 mL_does 349 [some (.ref 3), some (.int (nI k)), some (.int (nI kn)), some (.ref x), some (.int (nI t)), some (.int (nI tk)), some (.int (nI v)), some (.int (nI xx)), some (.int (nI m)), some (.int (nI (xx % m))), some (.int (nI b))] [] w1 48 288 (DE w x G K kn tk) := by
  have hnb := hg.1.nb
  have hnt := hg.1.nt
  have ha : xx % m < m := Nat.mod_lt _ (by omega)
  refine J_aload_n dL_does_349 rfl rfl ?_
  refine J_iload dL_does_350 rfl ?_
  refine K_sch (kb := 47) (sb := 282) dL_does_352 rfl YL_putCat kL_237 (c_L_putCat hX (nI (xx % m))) rfl rfl (Nat.le_of_ble_eq_true rfl) (by decide) (fun r9 w9 q9 => ?_)
  obtain ⟨rfl, k9, hX⟩ := q9
  exact J_ireturn dL_does_355 rfl rfl (RP_i ⟨_, _, rfl, kp.tr k9, hX, mut_dp (rok_cat hg.1 _) ((wg_cat hg _).mono (by omega)), fun g1 g2 => (hno g1 g2).elim⟩)
set_option maxRecDepth 100000 in
theorem c_d_356 {w w1 : Wd} {x k kn t tk K v xx m b : Nat} {G : Gme} (hg : WG (gS G) K) (ht : t ≤ sNt (gS G)) (hv : v < 1000) (hxx : xx < 1000) (hm1 : 1 ≤ m) (hm2 : m ≤ sNb (gS G) + 1) (hb : b < m) (kp : KP w w1 x) (hX : RepX w1 x G) (hno : 38 < kn → kn < 46 → False) : J 18 mL_does 356 [some (.ref 3), some (.int (nI k)), some (.int (nI kn)), some (.ref x), some (.int (nI t)), some (.int (nI tk)), some (.int (nI v)), some (.int (nI xx)), some (.int (nI m)), some (.int (nI (xx % m))), some (.int (nI b))] [] w1 48 288 (DE w x G K kn tk) := by
  have hnb := hg.1.nb
  have hnt := hg.1.nt
  have ha : xx % m < m := Nat.mod_lt _ (by omega)
  refine J_aload_n dL_does_356 rfl rfl ?_
  refine J_iload dL_does_357 rfl ?_
  refine J_iload dL_does_359 rfl ?_
  refine J_bipush (v := nI 11) dL_does_361 (by decide) ?_
  refine K_irem (v := nI (v % 11)) dL_does_363 (nI_ne0 (by omega) (by omega)) (pk_rem (by omega) (by omega) (by omega)) ?_
  refine K_sch (kb := 47) (sb := 282) dL_does_364 rfl YL_addTrain kL_239 (c_L_addTrain hX (nI (xx % m)) (nI (v % 11))) rfl rfl (Nat.le_of_ble_eq_true rfl) (by decide) (fun r9 w9 q9 => ?_)
  obtain ⟨rfl, k9, hX⟩ := q9
  exact J_ireturn dL_does_367 rfl rfl (RP_i ⟨_, _, rfl, kp.tr k9, hX, mut_dp (rok_train hg.1 _ _) ((wg_train hg _ _).mono (by omega)), fun g1 g2 => (hno g1 g2).elim⟩)
set_option maxRecDepth 100000 in
theorem c_d_368 {w w1 : Wd} {x k kn t tk K v xx m b : Nat} {G : Gme} (hg : WG (gS G) K) (ht : t ≤ sNt (gS G)) (hv : v < 1000) (hxx : xx < 1000) (hm1 : 1 ≤ m) (hm2 : m ≤ sNb (gS G) + 1) (hb : b < m) (kp : KP w w1 x) (hX : RepX w1 x G) (hno : 38 < kn → kn < 46 → False) : J 18 mL_does 368 [some (.ref 3), some (.int (nI k)), some (.int (nI kn)), some (.ref x), some (.int (nI t)), some (.int (nI tk)), some (.int (nI v)), some (.int (nI xx)), some (.int (nI m)), some (.int (nI (xx % m))), some (.int (nI b))] [] w1 48 288 (DE w x G K kn tk) := by
  have hnb := hg.1.nb
  have hnt := hg.1.nt
  have ha : xx % m < m := Nat.mod_lt _ (by omega)
  refine J_aload_n dL_does_368 rfl rfl ?_
  refine J_iload dL_does_369 rfl ?_
  refine J_iload dL_does_371 rfl ?_
  refine K_sch (kb := 47) (sb := 282) dL_does_373 rfl YL_setGoal kL_241 (c_L_setGoal hX (nI t) (nI (xx % m))) rfl rfl (Nat.le_of_ble_eq_true rfl) (by decide) (fun r9 w9 q9 => ?_)
  obtain ⟨rfl, k9, hX⟩ := q9
  exact J_ireturn dL_does_376 rfl rfl (RP_i ⟨_, _, rfl, kp.tr k9, hX, mut_dp (rok_aim hg.1 _ _) ((wg_aim hg _ _).mono (by omega)), fun g1 g2 => (hno g1 g2).elim⟩)
set_option maxRecDepth 100000 in
theorem c_d_377 {w w1 : Wd} {x k kn t tk K v xx m b : Nat} {G : Gme} (hg : WG (gS G) K) (ht : t ≤ sNt (gS G)) (hv : v < 1000) (hxx : xx < 1000) (hm1 : 1 ≤ m) (hm2 : m ≤ sNb (gS G) + 1) (hb : b < m) (kp : KP w w1 x) (hX : RepX w1 x G) (hno : 38 < kn → kn < 46 → False) : J 18 mL_does 377 [some (.ref 3), some (.int (nI k)), some (.int (nI kn)), some (.ref x), some (.int (nI t)), some (.int (nI tk)), some (.int (nI v)), some (.int (nI xx)), some (.int (nI m)), some (.int (nI (xx % m))), some (.int (nI b))] [] w1 48 288 (DE w x G K kn tk) := by
  have hnb := hg.1.nb
  have hnt := hg.1.nt
  have ha : xx % m < m := Nat.mod_lt _ (by omega)
  refine J_aload_n dL_does_377 rfl rfl ?_
  refine J_iload dL_does_378 rfl ?_
  refine K_sch (kb := 47) (sb := 282) dL_does_380 rfl YL_clearGoal kL_243 (c_L_clearGoal hX (nI t)) rfl rfl (Nat.le_of_ble_eq_true rfl) (by decide) (fun r9 w9 q9 => ?_)
  obtain ⟨rfl, k9, hX⟩ := q9
  exact J_ireturn dL_does_383 rfl rfl (RP_i ⟨_, _, rfl, kp.tr k9, hX, mut_dp (rok_drop hg.1 _) ((wg_drop hg _).mono (by omega)), fun g1 g2 => (hno g1 g2).elim⟩)
set_option maxRecDepth 100000 in
theorem c_d_384 {w w1 : Wd} {x k kn t tk K v xx m b : Nat} {G : Gme} (hg : WG (gS G) K) (ht : t ≤ sNt (gS G)) (hv : v < 1000) (hxx : xx < 1000) (hm1 : 1 ≤ m) (hm2 : m ≤ sNb (gS G) + 1) (hb : b < m) (kp : KP w w1 x) (hX : RepX w1 x G) (hno : 38 < kn → kn < 46 → False) : J 18 mL_does 384 [some (.ref 3), some (.int (nI k)), some (.int (nI kn)), some (.ref x), some (.int (nI t)), some (.int (nI tk)), some (.int (nI v)), some (.int (nI xx)), some (.int (nI m)), some (.int (nI (xx % m))), some (.int (nI b))] [] w1 48 288 (DE w x G K kn tk) := by
  have hnb := hg.1.nb
  have hnt := hg.1.nt
  have ha : xx % m < m := Nat.mod_lt _ (by omega)
  refine J_aload_n dL_does_384 rfl rfl ?_
  refine J_iload dL_does_385 rfl ?_
  refine J_iload dL_does_387 rfl ?_
  refine K_sch (kb := 47) (sb := 282) dL_does_389 rfl YL_reserve kL_245 (c_L_reserve hX (nI t) (nI (xx % m))) rfl rfl (Nat.le_of_ble_eq_true rfl) (by decide) (fun r9 w9 q9 => ?_)
  obtain ⟨rfl, k9, hX⟩ := q9
  exact J_ireturn dL_does_392 rfl rfl (RP_i ⟨_, _, rfl, kp.tr k9, hX, mut_dp (rok_hold hg.1 _ _) ((wg_hold hg _ _).mono (by omega)), fun g1 g2 => (hno g1 g2).elim⟩)
set_option maxRecDepth 100000 in
theorem c_d_393 {w w1 : Wd} {x k kn t tk K v xx m b : Nat} {G : Gme} (hg : WG (gS G) K) (ht : t ≤ sNt (gS G)) (hv : v < 1000) (hxx : xx < 1000) (hm1 : 1 ≤ m) (hm2 : m ≤ sNb (gS G) + 1) (hb : b < m) (kp : KP w w1 x) (hX : RepX w1 x G) (hno : 38 < kn → kn < 46 → False) : J 18 mL_does 393 [some (.ref 3), some (.int (nI k)), some (.int (nI kn)), some (.ref x), some (.int (nI t)), some (.int (nI tk)), some (.int (nI v)), some (.int (nI xx)), some (.int (nI m)), some (.int (nI (xx % m))), some (.int (nI b))] [] w1 48 288 (DE w x G K kn tk) := by
  have hnb := hg.1.nb
  have hnt := hg.1.nt
  have ha : xx % m < m := Nat.mod_lt _ (by omega)
  refine J_aload_n dL_does_393 rfl rfl ?_
  refine J_iload dL_does_394 rfl ?_
  refine K_sch (kb := 47) (sb := 282) dL_does_396 rfl YL_cancelReservation kL_247 (c_L_cancelReservation hX (nI t)) rfl rfl (Nat.le_of_ble_eq_true rfl) (by decide) (fun r9 w9 q9 => ?_)
  obtain ⟨rfl, k9, hX⟩ := q9
  exact J_ireturn dL_does_399 rfl rfl (RP_i ⟨_, _, rfl, kp.tr k9, hX, mut_dp (rok_free hg.1 _) ((wg_free hg _).mono (by omega)), fun g1 g2 => (hno g1 g2).elim⟩)
set_option maxRecDepth 100000 in
theorem c_d_400 {w w1 : Wd} {x k kn t tk K v xx m b : Nat} {G : Gme} (hg : WG (gS G) K) (ht : t ≤ sNt (gS G)) (hv : v < 1000) (hxx : xx < 1000) (hm1 : 1 ≤ m) (hm2 : m ≤ sNb (gS G) + 1) (hb : b < m) (kp : KP w w1 x) (hX : RepX w1 x G) (hno : 38 < kn → kn < 46 → False) : J 18 mL_does 400 [some (.ref 3), some (.int (nI k)), some (.int (nI kn)), some (.ref x), some (.int (nI t)), some (.int (nI tk)), some (.int (nI v)), some (.int (nI xx)), some (.int (nI m)), some (.int (nI (xx % m))), some (.int (nI b))] [] w1 48 288 (DE w x G K kn tk) := by
  have hnb := hg.1.nb
  have hnt := hg.1.nt
  have ha : xx % m < m := Nat.mod_lt _ (by omega)
  refine J_aload_n dL_does_400 rfl rfl ?_
  refine J_iload dL_does_401 rfl ?_
  refine K_sch (kb := 47) (sb := 282) dL_does_403 rfl YL_removeCat kL_249 (c_L_removeCat hX (nI (xx % m))) rfl rfl (Nat.le_of_ble_eq_true rfl) (by decide) (fun r9 w9 q9 => ?_)
  obtain ⟨rfl, k9, hX⟩ := q9
  exact J_ireturn dL_does_406 rfl rfl (RP_i ⟨_, _, rfl, kp.tr k9, hX, mut_dp (rok_shoo hg.1 _) ((wg_shoo hg _).mono (by omega)), fun g1 g2 => (hno g1 g2).elim⟩)
set_option maxRecDepth 100000 in
theorem c_d_407 {w w1 : Wd} {x k kn t tk K v xx m b : Nat} {G : Gme} (hg : WG (gS G) K) (ht : t ≤ sNt (gS G)) (hv : v < 1000) (hxx : xx < 1000) (hm1 : 1 ≤ m) (hm2 : m ≤ sNb (gS G) + 1) (hb : b < m) (kp : KP w w1 x) (hX : RepX w1 x G) (hno : 38 < kn → kn < 46 → False) : J 18 mL_does 407 [some (.ref 3), some (.int (nI k)), some (.int (nI kn)), some (.ref x), some (.int (nI t)), some (.int (nI tk)), some (.int (nI v)), some (.int (nI xx)), some (.int (nI m)), some (.int (nI (xx % m))), some (.int (nI b))] [] w1 48 288 (DE w x G K kn tk) := by
  have hnb := hg.1.nb
  have hnt := hg.1.nt
  have ha : xx % m < m := Nat.mod_lt _ (by omega)
  refine J_aload_n dL_does_407 rfl rfl ?_
  refine J_iload dL_does_408 rfl ?_
  refine K_sch (kb := 47) (sb := 282) dL_does_410 rfl YL_rescue kL_251 (c_L_rescue hX (nI t)) rfl rfl (Nat.le_of_ble_eq_true rfl) (by decide) (fun r9 w9 q9 => ?_)
  obtain ⟨rfl, k9, hX⟩ := q9
  exact J_ireturn dL_does_413 rfl rfl (RP_i ⟨_, _, rfl, kp.tr k9, hX, mut_dp (rok_resc hg.1 _) ((wg_resc hg _).mono (by omega)), fun g1 g2 => (hno g1 g2).elim⟩)
set_option maxRecDepth 100000 in
theorem c_d_414 {w w1 : Wd} {x k kn t tk K v xx m b : Nat} {G : Gme} (hg : WG (gS G) K) (ht : t ≤ sNt (gS G)) (hv : v < 1000) (hxx : xx < 1000) (hm1 : 1 ≤ m) (hm2 : m ≤ sNb (gS G) + 1) (hb : b < m) (kp : KP w w1 x) (hX : RepX w1 x G) : J 18 mL_does 414 [some (.ref 3), some (.int (nI k)), some (.int (nI kn)), some (.ref x), some (.int (nI t)), some (.int (nI tk)), some (.int (nI v)), some (.int (nI xx)), some (.int (nI m)), some (.int (nI (xx % m))), some (.int (nI b))] [] w1 48 288 (DE w x G K kn tk) := by
  have hnb := hg.1.nb
  have hnt := hg.1.nt
  have ha : xx % m < m := Nat.mod_lt _ (by omega)
  refine J_aload_n dL_does_414 rfl rfl ?_
  refine J_iload dL_does_415 rfl ?_
  refine K_sch (kb := 47) (sb := 282) dL_does_417 rfl YL_passTicks kL_253 (c_L_passTicks hX (nI tk)) rfl rfl (Nat.le_of_ble_eq_true rfl) (by decide) (fun r9 w9 q9 => ?_)
  obtain ⟨rfl, k9, hX⟩ := q9
  exact J_ireturn dL_does_420 rfl rfl (RP_i ⟨_, _, rfl, kp.tr k9, hX, mut_dp (rok_tick hg.1 _) ((wg_tick hg _).mono (by omega)), fun _ _ => ⟨rfl, rfl⟩⟩)
set_option maxRecDepth 100000 in
theorem c_d_421 {w w1 : Wd} {x k kn t tk K v xx m b : Nat} {G : Gme} (hg : WG (gS G) K) (ht : t ≤ sNt (gS G)) (hv : v < 1000) (hxx : xx < 1000) (hm1 : 1 ≤ m) (hm2 : m ≤ sNb (gS G) + 1) (hb : b < m) (kp : KP w w1 x) (hX : RepX w1 x G) (hno : 38 < kn → kn < 46 → False) : J 18 mL_does 421 [some (.ref 3), some (.int (nI k)), some (.int (nI kn)), some (.ref x), some (.int (nI t)), some (.int (nI tk)), some (.int (nI v)), some (.int (nI xx)), some (.int (nI m)), some (.int (nI (xx % m))), some (.int (nI b))] [] w1 48 288 (DE w x G K kn tk) := by
  have hnb := hg.1.nb
  have hnt := hg.1.nt
  have ha : xx % m < m := Nat.mod_lt _ (by omega)
  skip
  refine J.widen (kb' := (17 + 2 + 2 + 2) + 2) (sb' := (102 + 20 + 20 + 20) + 20) (by omega) (by omega) ?_
  refine J_aload_n dL_does_421 rfl rfl ?_
  refine K_nsb (kb := 17 + 2 + 2 + 2) (sb := 102 + 20 + 20 + 20) dL_does_422 dL_does_425 dL_does_426 nL_255 kL_257 kp hX (Nat.le_of_ble_eq_true rfl) (by decide) (fun b1 a1 w422 h0 _ => ?_)
  refine J_ldcwS dL_does_429 (List.mem_of_getElem? (i := 0) rfl) (by decide) ?_
  refine K_aps dL_does_432 kL_260 h0 (show VStr _ 29 59 5 _ from VStr.co _ (i := 9) (by decide)) (by omega) (Nat.le_of_ble_eq_true rfl) (by decide) (fun w432 h1 _ => ?_)
  refine J_iconst (v := nI 1) dL_does_435 (by decide) ?_
  refine J_iload dL_does_436 rfl ?_
  refine J_iconst (v := nI 4) dL_does_438 (by decide) ?_
  refine K_irem (v := nI (v % 4)) dL_does_439 (nI_ne0 (by omega) (by omega)) (pk_rem (by omega) (by omega) (by omega)) ?_
  refine K_iadd (v := nI (1 + v % 4)) dL_does_440 (nI_add _ _) ?_
  have hsv : szN (1 + v % 4) = 1 := by unfold szN; rw [if_pos (by omega)]
  refine K_api (m := 1) dL_does_441 kL_264 h1 (by omega) hsv (by omega) (Nat.le_of_ble_eq_true rfl) (by decide) (fun w441 h2 _ => ?_)
  refine J_iload dL_does_444 rfl ?_
  refine J_iconst (v := nI 4) dL_does_446 (by decide) ?_
  refine K_irem (v := nI (v % 4)) dL_does_447 (nI_ne0 (by omega) (by omega)) (pk_rem (by omega) (by omega) (by omega)) ?_
  have hS1 : SBo w441 b1 a1 6 := h2.2.2.1
  obtain ⟨-, -, -, d1, d2, p1, p2⟩ := id h0
  have tail3 : ∀ w2 s2 v2 n2 (f2 : Nat → Int32), KP w w2 x → RepX w2 x G → SBo w2 b1 a1 6 → VStr w2 s2 v2 n2 f2 → n2 ≤ 10 → J 18 mL_does 564 [some (.ref 3), some (.int (nI k)), some (.int (nI kn)), some (.ref x), some (.int (nI t)), some (.int (nI tk)), some (.int (nI v)), some (.int (nI xx)), some (.int (nI m)), some (.int (nI (xx % m))), some (.int (nI b))] [.ref s2, .ref b1, .ref x] w2 (17 + 2) (102 + 20) (DE w x G K kn tk) := by
    intro w2 s2 v2 n2 f2 kp hX hS hV hn
    have hT : TBu w w2 x G b1 a1 6 := ⟨kp, hX, hS, d1, d2, p1, p2⟩
    refine K_aps dL_does_564 kL_260 hT hV (by omega) (Nat.le_of_ble_eq_true rfl) (by decide) (fun w564 h3 _ => ?_)
    refine K_tos (kb := 17) (sb := 102) dL_does_567 kL_271 h3 (by omega) (Nat.le_of_ble_eq_true rfl) (by decide) (fun s3 v3 g3 w3 kp hX hV3 hv3 hs3 l1 l2 _ => ?_)
    refine K_sc (kb := 0) (sb := 0) dL_does_570 YL_runs kL_283 (c_L_runs hX hg hs3 hv3 hV3.1 l1 l2 (by omega)) rfl rfl (Nat.le_of_ble_eq_true rfl) (by decide) (fun r9 w9 q9 => ?_)
    obtain ⟨G', v9, rfl, k9, hX, hdp⟩ := q9
    exact J_ireturn dL_does_573 rfl rfl (RP_i ⟨_, _, rfl, kp.tr k9, hX, hdp, fun g1 g2 => (hno g1 g2).elim⟩)
  obtain ⟨kpS, hXS, -⟩ := id h2
  have hsz : szN (xx % m) ≤ 2 := by unfold szN; split <;> omega
  have hst : szN t = 1 := by unfold szN; rw [if_pos (by omega)]
  refine J.widen (kb' := 17 + 2 + 2 + 2) (sb' := 102 + 20 + 20 + 20) (by omega) (by omega) ?_
  by_cases c0 : v % 4 = 0
  · refine J_if_ne (tgt := 486) dL_does_448 (by decide) (fun h => absurd (congrArg nI c0) h) (fun h => ?_)
    refine K_nsb (kb := 17 + 2 + 2) (sb := 102 + 20 + 20) dL_does_451 dL_does_454 dL_does_455 nL_255 kL_257 kpS hXS (Nat.le_of_ble_eq_true rfl) (by decide) (fun b2 a2 w451 i0 o0 => ?_)
    obtain ⟨hO, n1, n2, n3, n4⟩ := o0 _ _ _ hS1
    refine J_ldcwS dL_does_458 (List.mem_of_getElem? (i := 1) rfl) (by decide) ?_
    refine K_aps dL_does_461 kL_260 i0 (show VStr _ 30 60 6 _ from VStr.co _ (i := 10) (by decide)) (by omega) (Nat.le_of_ble_eq_true rfl) (by decide) (fun w461 i1 o1 => ?_)
    have hO := o1 _ _ _ hO n1 n3 n2 n4
    refine J_iload dL_does_464 rfl ?_
    refine K_api (m := 1) dL_does_466 kL_264 i1 (by omega) hst (by omega) (Nat.le_of_ble_eq_true rfl) (by decide) (fun w466 i2 o2 => ?_)
    have hO := o2 _ _ _ hO n1 n3 n2 n4
    refine J_ldcwS dL_does_469 (List.mem_of_getElem? (i := 2) rfl) (by decide) ?_
    refine K_aps dL_does_472 kL_260 i2 (show VStr _ 31 61 1 _ from VStr.co _ (i := 11) (by decide)) (by omega) (Nat.le_of_ble_eq_true rfl) (by decide) (fun w472 i3 o3 => ?_)
    have hO := o3 _ _ _ hO n1 n3 n2 n4
    refine J_iload dL_does_475 rfl ?_
    refine K_api (m := szN (xx % m)) dL_does_477 kL_264 i3 (by omega) rfl (by omega) (Nat.le_of_ble_eq_true rfl) (by decide) (fun w477 i4 o4 => ?_)
    have hO := o4 _ _ _ hO n1 n3 n2 n4
    refine K_tos (kb := 17 + 2) (sb := 102 + 20) dL_does_480 kL_271 i4 (by omega) (Nat.le_of_ble_eq_true rfl) (by decide) (fun s3 v3 g3 w3 kp hX hV3 hv3 hs3 l1 l2 o9 => ?_)
    refine J_goto (tgt := 564) dL_does_483 (by decide) ?_
    exact tail3 _ _ _ _ _ kp hX (o9 _ _ _ hO n1 n3 n2 n4) hV3 (by omega)
  · refine J_if_ne (tgt := 486) dL_does_448 (by decide) (fun h => ?_) (fun h => absurd (nI_inj (b := 0) (by omega) (by omega) h) c0)
    refine J_iload dL_does_486 rfl ?_
    refine J_iconst (v := nI 4) dL_does_488 (by decide) ?_
    refine K_irem (v := nI (v % 4)) dL_does_489 (nI_ne0 (by omega) (by omega)) (pk_rem (by omega) (by omega) (by omega)) ?_
    refine J_iconst (v := nI 1) dL_does_490 (by decide) ?_
    by_cases c1 : v % 4 = 1
    · refine J_icmp_ne (tgt := 518) dL_does_491 (by decide) (fun h => absurd (congrArg nI c1) h) (fun h => ?_)
      refine K_nsb (kb := 17 + 2 + 2) (sb := 102 + 20 + 20) dL_does_494 dL_does_497 dL_does_498 nL_255 kL_257 kpS hXS (Nat.le_of_ble_eq_true rfl) (by decide) (fun b2 a2 w494 i0 o0 => ?_)
      obtain ⟨hO, n1, n2, n3, n4⟩ := o0 _ _ _ hS1
      refine J_ldcwS dL_does_501 (List.mem_of_getElem? (i := 3) rfl) (by decide) ?_
      refine K_aps dL_does_504 kL_260 i0 (show VStr _ 32 62 5 _ from VStr.co _ (i := 12) (by decide)) (by omega) (Nat.le_of_ble_eq_true rfl) (by decide) (fun w504 i1 o1 => ?_)
      have hO := o1 _ _ _ hO n1 n3 n2 n4
      refine J_iload dL_does_507 rfl ?_
      refine K_api (m := szN (xx % m)) dL_does_509 kL_264 i1 (by omega) rfl (by omega) (Nat.le_of_ble_eq_true rfl) (by decide) (fun w509 i2 o2 => ?_)
      have hO := o2 _ _ _ hO n1 n3 n2 n4
      refine K_tos (kb := 17 + 2) (sb := 102 + 20) dL_does_512 kL_271 i2 (by omega) (Nat.le_of_ble_eq_true rfl) (by decide) (fun s3 v3 g3 w3 kp hX hV3 hv3 hs3 l1 l2 o9 => ?_)
      refine J_goto (tgt := 564) dL_does_515 (by decide) ?_
      exact tail3 _ _ _ _ _ kp hX (o9 _ _ _ hO n1 n3 n2 n4) hV3 (by omega)
    · refine J_icmp_ne (tgt := 518) dL_does_491 (by decide) (fun h => ?_) (fun h => absurd (nI_inj (by omega) (by omega) h) c1)
      refine J_iload dL_does_518 rfl ?_
      refine J_iconst (v := nI 4) dL_does_520 (by decide) ?_
      refine K_irem (v := nI (v % 4)) dL_does_521 (nI_ne0 (by omega) (by omega)) (pk_rem (by omega) (by omega) (by omega)) ?_
      refine J_iconst (v := nI 2) dL_does_522 (by decide) ?_
      by_cases c2 : v % 4 = 2
      · refine J_icmp_ne (tgt := 561) dL_does_523 (by decide) (fun h => absurd (congrArg nI c2) h) (fun h => ?_)
        refine K_nsb (kb := 17 + 2 + 2) (sb := 102 + 20 + 20) dL_does_526 dL_does_529 dL_does_530 nL_255 kL_257 kpS hXS (Nat.le_of_ble_eq_true rfl) (by decide) (fun b2 a2 w526 i0 o0 => ?_)
        obtain ⟨hO, n1, n2, n3, n4⟩ := o0 _ _ _ hS1
        refine J_ldcwS dL_does_533 (List.mem_of_getElem? (i := 4) rfl) (by decide) ?_
        refine K_aps dL_does_536 kL_260 i0 (show VStr _ 33 63 6 _ from VStr.co _ (i := 13) (by decide)) (by omega) (Nat.le_of_ble_eq_true rfl) (by decide) (fun w536 i1 o1 => ?_)
        have hO := o1 _ _ _ hO n1 n3 n2 n4
        refine J_iload dL_does_539 rfl ?_
        refine K_api (m := 1) dL_does_541 kL_264 i1 (by omega) hst (by omega) (Nat.le_of_ble_eq_true rfl) (by decide) (fun w541 i2 o2 => ?_)
        have hO := o2 _ _ _ hO n1 n3 n2 n4
        refine J_ldcwS dL_does_544 (List.mem_of_getElem? (i := 5) rfl) (by decide) ?_
        refine K_aps dL_does_547 kL_260 i2 (show VStr _ 34 64 1 _ from VStr.co _ (i := 14) (by decide)) (by omega) (Nat.le_of_ble_eq_true rfl) (by decide) (fun w547 i3 o3 => ?_)
        have hO := o3 _ _ _ hO n1 n3 n2 n4
        refine J_iload dL_does_550 rfl ?_
        refine K_api (m := szN (xx % m)) dL_does_552 kL_264 i3 (by omega) rfl (by omega) (Nat.le_of_ble_eq_true rfl) (by decide) (fun w552 i4 o4 => ?_)
        have hO := o4 _ _ _ hO n1 n3 n2 n4
        refine K_tos (kb := 17 + 2) (sb := 102 + 20) dL_does_555 kL_271 i4 (by omega) (Nat.le_of_ble_eq_true rfl) (by decide) (fun s3 v3 g3 w3 kp hX hV3 hv3 hs3 l1 l2 o9 => ?_)
        refine J_goto (tgt := 564) dL_does_558 (by decide) ?_
        exact tail3 _ _ _ _ _ kp hX (o9 _ _ _ hO n1 n3 n2 n4) hV3 (by omega)
      · refine J_icmp_ne (tgt := 561) dL_does_523 (by decide) (fun h => ?_) (fun h => absurd (nI_inj (by omega) (by omega) h) c2)
        refine J_ldcwS dL_does_561 (List.mem_of_getElem? (i := 6) rfl) (by decide) ?_
        exact J.widen (by omega) (by omega) (tail3 _ _ _ _ _ kpS hXS hS1 (show VStr _ 35 65 1 _ from VStr.co _ (i := 15) (by decide)) (by omega))
set_option maxRecDepth 100000 in
theorem c_does_2 {w : Wd} {x k kn t tk K v xx m : Nat} {G : Gme} (hg : WG (gS G) K) (hkn : kn < 50) (ht : t ≤ sNt (gS G)) (htk : tk < 8) (hv : v < 1000) (hxx : xx < 1000) (hm1 : 1 ≤ m) (hm2 : m ≤ sNb (gS G) + 1) : ∀ b, b < m → ∀ w1, KP w w1 x → RepX w1 x G → J 18 mL_does 80 [some (.ref 3), some (.int (nI k)), some (.int (nI kn)), some (.ref x), some (.int (nI t)), some (.int (nI tk)), some (.int (nI v)), some (.int (nI xx)), some (.int (nI m)), some (.int (nI (xx % m))), none] [.int (nI b)] w1 48 288 (DE w x G K kn tk) := by
    intro b hb w1 kp hX
    have hnb := hg.1.nb
    have hnt := hg.1.nt
    have ha : xx % m < m := Nat.mod_lt _ (by omega)
    refine J_istore dL_does_80 (by decide) rfl ?_
    refine J_iload_n dL_does_82 rfl rfl ?_
    by_cases g280 : kn < 4
    · exact J_tableIn (off := 197) (tgt := 280) dL_does_83 (ts_r kn hkn).1 (fun h => absurd ((ts_r kn hkn).2.mp h) (by omega)) (ts_280 kn g280 (by omega)) (by decide) (c_d_280 hg ht hv hxx hm1 hm2 hb kp hX (fun g1 g2 => by omega))
    by_cases g331 : kn < 12
    · exact J_tableIn (off := 248) (tgt := 331) dL_does_83 (ts_r kn hkn).1 (fun h => absurd ((ts_r kn hkn).2.mp h) (by omega)) (ts_331 kn g331 (by omega)) (by decide) (c_d_331 hg ht hv hxx hm1 hm2 hb kp hX (fun g1 g2 => by omega))
    by_cases g340 : kn < 13
    · exact J_tableIn (off := 257) (tgt := 340) dL_does_83 (ts_r kn hkn).1 (fun h => absurd ((ts_r kn hkn).2.mp h) (by omega)) (ts_340 kn g340 (by omega)) (by decide) (c_d_340 hg ht hv hxx hm1 hm2 hb kp hX (fun g1 g2 => by omega))
    by_cases g349 : kn < 14
    · exact J_tableIn (off := 266) (tgt := 349) dL_does_83 (ts_r kn hkn).1 (fun h => absurd ((ts_r kn hkn).2.mp h) (by omega)) (ts_349 kn g349 (by omega)) (by decide) (c_d_349 hg ht hv hxx hm1 hm2 hb kp hX (fun g1 g2 => by omega))
    by_cases g356 : kn < 18
    · exact J_tableIn (off := 273) (tgt := 356) dL_does_83 (ts_r kn hkn).1 (fun h => absurd ((ts_r kn hkn).2.mp h) (by omega)) (ts_356 kn g356 (by omega)) (by decide) (c_d_356 hg ht hv hxx hm1 hm2 hb kp hX (fun g1 g2 => by omega))
    by_cases g368 : kn < 28
    · exact J_tableIn (off := 285) (tgt := 368) dL_does_83 (ts_r kn hkn).1 (fun h => absurd ((ts_r kn hkn).2.mp h) (by omega)) (ts_368 kn g368 (by omega)) (by decide) (c_d_368 hg ht hv hxx hm1 hm2 hb kp hX (fun g1 g2 => by omega))
    by_cases g377 : kn < 29
    · exact J_tableIn (off := 294) (tgt := 377) dL_does_83 (ts_r kn hkn).1 (fun h => absurd ((ts_r kn hkn).2.mp h) (by omega)) (ts_377 kn g377 (by omega)) (by decide) (c_d_377 hg ht hv hxx hm1 hm2 hb kp hX (fun g1 g2 => by omega))
    by_cases g384 : kn < 34
    · exact J_tableIn (off := 301) (tgt := 384) dL_does_83 (ts_r kn hkn).1 (fun h => absurd ((ts_r kn hkn).2.mp h) (by omega)) (ts_384 kn g384 (by omega)) (by decide) (c_d_384 hg ht hv hxx hm1 hm2 hb kp hX (fun g1 g2 => by omega))
    by_cases g393 : kn < 35
    · exact J_tableIn (off := 310) (tgt := 393) dL_does_83 (ts_r kn hkn).1 (fun h => absurd ((ts_r kn hkn).2.mp h) (by omega)) (ts_393 kn g393 (by omega)) (by decide) (c_d_393 hg ht hv hxx hm1 hm2 hb kp hX (fun g1 g2 => by omega))
    by_cases g400 : kn < 36
    · exact J_tableIn (off := 317) (tgt := 400) dL_does_83 (ts_r kn hkn).1 (fun h => absurd ((ts_r kn hkn).2.mp h) (by omega)) (ts_400 kn g400 (by omega)) (by decide) (c_d_400 hg ht hv hxx hm1 hm2 hb kp hX (fun g1 g2 => by omega))
    by_cases g407 : kn < 39
    · exact J_tableIn (off := 324) (tgt := 407) dL_does_83 (ts_r kn hkn).1 (fun h => absurd ((ts_r kn hkn).2.mp h) (by omega)) (ts_407 kn g407 (by omega)) (by decide) (c_d_407 hg ht hv hxx hm1 hm2 hb kp hX (fun g1 g2 => by omega))
    by_cases g414 : kn < 46
    · exact J_tableIn (off := 331) (tgt := 414) dL_does_83 (ts_r kn hkn).1 (fun h => absurd ((ts_r kn hkn).2.mp h) (by omega)) (ts_414 kn g414 (by omega)) (by decide) (c_d_414 hg ht hv hxx hm1 hm2 hb kp hX)
    exact J_tableOut (tgt := 421) dL_does_83 (Or.inr ((ts_r kn hkn).2.mpr (by omega))) (by decide) (c_d_421 hg ht hv hxx hm1 hm2 hb kp hX (fun g1 g2 => by omega))
set_option maxRecDepth 100000 in
theorem c_L_does {w : Wd} {x k kn t tk K : Nat} {G : Gme} (hX : RepX w x G) (hg : WG (gS G) K) (hk : k < 1000) (hkn : kn < 50) (ht : t ≤ sNt (gS G)) (htk : tk < 8) : MC 18 mL_does 50 300 [.ref 3, .int (nI k), .int (nI kn), .ref x, .int (nI t), .int (nI tk)] w (DE w x G K kn tk) := by
  refine MC_of pnL rfl (fun v hv => by simp only [List.mem_cons, List.not_mem_nil, or_false] at hv; rcases hv with rfl | rfl | rfl | rfl | rfl | rfl <;> rfl) (Nat.le_of_ble_eq_true rfl) (Or.inr (fun E w h => RP_no E w h)) ?_
  show J 18 mL_does 0 [some (.ref 3), some (.int (nI k)), some (.int (nI kn)), some (.ref x), some (.int (nI t)), some (.int (nI tk)), none, none, none, none, none] [] w 50 300 _
  have hnb := hg.1.nb
  have hnt := hg.1.nt
  refine J_aload_n dL_does_0 rfl rfl ?_
  refine J_iload_n dL_does_1 rfl rfl ?_
  refine J_iconst (v := nI 3) dL_does_2 (by decide) ?_
  refine K_iadd (v := nI (k + 3)) dL_does_3 (nI_add _ _) ?_
  refine J_sipush (v := nI 1000) dL_does_4 (by decide) ?_
  refine K_sc (kb := 50) (sb := 300) dL_does_7 YL_pick kL_196 (c_L_pick (by omega) (by omega) (by omega)) rfl rfl (Nat.le_of_ble_eq_true rfl) (by decide) (fun r1 w1 q1 => ?_)
  obtain ⟨rfl, v, hv, rfl⟩ := q1
  refine J_istore dL_does_10 (by decide) rfl ?_
  refine J_aload_n dL_does_12 rfl rfl ?_
  refine J_iload_n dL_does_13 rfl rfl ?_
  refine J_iconst (v := nI 4) dL_does_14 (by decide) ?_
  refine K_iadd (v := nI (k + 4)) dL_does_15 (nI_add _ _) ?_
  refine J_sipush (v := nI 1000) dL_does_16 (by decide) ?_
  refine K_sc (kb := 50) (sb := 300) dL_does_19 YL_pick kL_196 (c_L_pick (by omega) (by omega) (by omega)) rfl rfl (Nat.le_of_ble_eq_true rfl) (by decide) (fun r2 w2 q2 => ?_)
  obtain ⟨rfl, xx, hxx, rfl⟩ := q2
  refine J_istore dL_does_22 (by decide) rfl ?_
  refine J_aload_n dL_does_24 rfl rfl ?_
  refine K_hV (v := nI (sNb (gS G))) (kb := 49) (sb := 294) dL_does_25 YX8_blockCount kL_225 hX.rc (c_X8_blockCount hX) rfl rfl rfl (Nat.le_of_ble_eq_true rfl) (by decide) (fun w3 k3 hX => ?_)
  have kp := k3
  refine J_iload dL_does_28 rfl ?_
  refine J_bipush (v := nI 19) dL_does_30 (by decide) ?_
  refine K_irem (v := nI (v % 19)) dL_does_32 (nI_ne0 (by omega) (by omega)) (pk_rem (by omega) (by omega) (by omega)) ?_
  have tail : ∀ m, 1 ≤ m → m ≤ sNb (gS G) + 1 → ∀ w1, KP w2 w1 x → RepX w1 x G → J 18 mL_does 49 [some (.ref 3), some (.int (nI k)), some (.int (nI kn)), some (.ref x), some (.int (nI t)), some (.int (nI tk)), some (.int (nI v)), some (.int (nI xx)), none, none, none] [.int (nI m)] w1 48 288 (DE w2 x G K kn tk) := by
    intro m hm1 hm2 w1 kp hX
    have ha : xx % m < m := Nat.mod_lt _ (by omega)
    have tail2 : ∀ b, b < m → ∀ w1, KP w2 w1 x → RepX w1 x G → J 18 mL_does 80 [some (.ref 3), some (.int (nI k)), some (.int (nI kn)), some (.ref x), some (.int (nI t)), some (.int (nI tk)), some (.int (nI v)), some (.int (nI xx)), some (.int (nI m)), some (.int (nI (xx % m))), none] [.int (nI b)] w1 48 288 (DE w2 x G K kn tk) := c_does_2 hg hkn ht htk hv hxx hm1 hm2
    refine J_istore dL_does_49 (by decide) rfl ?_
    refine J_iload dL_does_51 rfl ?_
    refine J_iload dL_does_53 rfl ?_
    refine K_irem (v := nI (xx % m)) dL_does_55 (nI_ne0 (by omega) (by omega)) (pk_rem (by omega) (by omega) (by omega)) ?_
    refine J_istore dL_does_56 (by decide) rfl ?_
    refine J_iload dL_does_58 rfl ?_
    refine J_iconst (v := nI 3) dL_does_60 (by decide) ?_
    refine K_irem (v := nI (v % 3)) dL_does_61 (nI_ne0 (by omega) (by omega)) (pk_rem (by omega) (by omega) (by omega)) ?_
    by_cases e3 : v % 3 = 0
    · skip
      refine J_if_ne (tgt := 73) dL_does_62 (by decide) (fun h => absurd (congrArg nI e3) h) (fun h => ?_)
      refine J_iload dL_does_65 rfl ?_
      refine J_iload dL_does_67 rfl ?_
      refine K_irem (v := nI (v % m)) dL_does_69 (nI_ne0 (by omega) (by omega)) (pk_rem (by omega) (by omega) (by omega)) ?_
      refine J_goto (tgt := 80) dL_does_70 (by decide) ?_
      exact tail2 _ (Nat.mod_lt _ (by omega)) _ kp hX
    · skip
      refine J_if_ne (tgt := 73) dL_does_62 (by decide) (fun h => ?_) (fun h => absurd (nI_inj (b := 0) (by omega) (by omega) h) e3)
      refine J_iload dL_does_73 rfl ?_
      refine J_iconst (v := nI 1) dL_does_75 (by decide) ?_
      refine K_iadd (v := nI (xx % m + 1)) dL_does_76 (nI_add _ _) ?_
      refine J_iload dL_does_77 rfl ?_
      refine K_irem (v := nI ((xx % m + 1) % m)) dL_does_79 (nI_ne0 (by omega) (by omega)) (pk_rem (by omega) (by omega) (by omega)) ?_
      exact tail2 _ (Nat.mod_lt _ (by omega)) _ kp hX
  by_cases e19 : v % 19 = 0
  · skip
    refine J_if_eq (tgt := 43) dL_does_33 (by decide) (fun h => ?_) (fun h => absurd (congrArg nI e19) h)
    refine J_iconst (v := nI 1) dL_does_43 (by decide) ?_
    refine J_goto (tgt := 48) dL_does_44 (by decide) ?_
    refine K_iadd (v := nI (sNb (gS G) + 1)) dL_does_48 (nI_add _ _) ?_
    exact J.widen (by omega) (by omega) (tail _ (by omega) (by omega) _ kp hX)
  · skip
    refine J_if_eq (tgt := 43) dL_does_33 (by decide) (fun h => absurd (nI_inj (b := 0) (by omega) (by omega) h) e19) (fun h => ?_)
    refine J_aload_n dL_does_36 rfl rfl ?_
    refine K_hV (v := nI (sNb (gS G))) (kb := 48) (sb := 288) dL_does_37 YX8_blockCount kL_225 hX.rc (c_X8_blockCount hX) rfl rfl rfl (Nat.le_of_ble_eq_true rfl) (by decide) (fun w4 k4 hX => ?_)
    have kp := kp.tr k4
    by_cases enb : sNb (gS G) = 0
    · refine J_if_ne (tgt := 47) dL_does_40 (by decide) (fun h => absurd (congrArg nI enb) h) (fun h => ?_)
      refine J_iconst (v := nI 1) dL_does_43 (by decide) ?_
      refine J_goto (tgt := 48) dL_does_44 (by decide) ?_
      refine K_iadd (v := nI (sNb (gS G) + 1)) dL_does_48 (nI_add _ _) ?_
      exact J.widen (by omega) (by omega) (tail _ (by omega) (by omega) _ kp hX)
    · refine J_if_ne (tgt := 47) dL_does_40 (by decide) (fun h => ?_) (fun h => absurd (nI_inj (b := 0) (by omega) (by omega) h) enb)
      refine J_iconst (v := nI 0) dL_does_47 (by decide) ?_
      refine K_iadd (v := nI (sNb (gS G) + 0)) dL_does_48 (nI_add _ _) ?_
      exact J.widen (by omega) (by omega) (tail _ (by omega) (by omega) _ kp hX)
end JDOES

/-! THE LAW: isTrain -/
section JTRN
theorem narB1 : narrow .boolean (.int (nI 1)) = .int (nI 1) := by first | rfl | decide | decide +kernel
/-- a check of the law that answers true and leaves the railway as it is -/
def YQ (w : Wd) (x : Nat) (G : Gme) : Po := RP (fun r w' => r = some (.int (nI 1)) ∧ KP w w' x ∧ RepX w' x G)
theorem b2i_t {b : Bool} (h : b = true) : b2i b = nI 1 := by rw [h]; rfl
theorem b2i_f {b : Bool} (h : b = false) : b2i b = nI 0 := by rw [h]; rfl
theorem oV_s {o : Option Nat} {k : Nat} (h : o = some k) : oV o = nI k := by rw [h]; rfl
theorem oV_n {o : Option Nat} (h : o = none) : oV o = -75 := by rw [h]; rfl
set_option maxRecDepth 100000 in
theorem c_L_isTrain {w : Wd} {x t K : Nat} {G : Gme} (hX : RepX w x G) (hg : WG (gS G) K) (hK : K < 2 ^ 31) (ht : t < sNt (gS G)) : MC 30 mL_isTrain 40 240 [.ref x, .int (nI t)] w (YQ w x G) := by
  refine MC_of pnL rfl (fun v hv => by simp only [List.mem_cons, List.not_mem_nil, or_false] at hv; rcases hv with rfl | rfl <;> rfl) (Nat.le_of_ble_eq_true rfl) (Or.inr (fun E w h => RP_no E w h)) ?_
  show J 30 mL_isTrain 0 [some (.ref x), some (.int (nI t)), none, none, none, none, none, none, none] [] w 40 240 _
  have hW := hg.1
  have hnb := hW.nb
  have hnt := hW.nt
  obtain ⟨hp1, hp2, hp3, hp4⟩ := hW.2.2.2.2.1 t ht
  have hlen := hW.2.1 _ hp1
  have hre := hg.2.2.1 t ht
  obtain ⟨kw, hkw, hwa⟩ := hg.2.2.2.2 t ht
  have st3 : ∀ w1, KP w w1 x → RepX w1 x G → J 30 mL_isTrain 177 [some (.ref x), some (.int (nI t)), some (.int (nI (sPl (gS G) t))), some (.int (oV (sGo (gS G) t))), some (.int (oV (nx (gS G) t))), some (.int (oV (bk (gS G) t))), some (.int (nI 1)), some (.int (nI 1)), none] [] w1 (0 + 14) (6 * 0 + 84) (YQ w x G) := by
    intro w1 kp hX
    refine J_aload_n dL_isTrain_177 rfl rfl ?_
    refine J_iload_n dL_isTrain_178 rfl rfl ?_
    refine K_h (v := nI (sRe (gS G) t)) (kb := 0 + 13) (sb := 6 * (0) + 78) dL_isTrain_179 rfl YL_remainingTicks kL_309 (h_remainingTicks hX (by omega)) rfl rfl rfl (Nat.le_of_ble_eq_true rfl) (by decide) (fun w31 k31 hX => ?_)
    have kp := kp.tr k31
    refine J_if_lt (tgt := 210) dL_isTrain_182 (by decide) (fun h => absurd h (nI_pos (by omega))) (fun h182 => ?_)
    refine J_aload_n dL_isTrain_185 rfl rfl ?_
    refine J_iload_n dL_isTrain_186 rfl rfl ?_
    refine K_h (v := nI (sRe (gS G) t)) (kb := 0 + 12) (sb := 6 * (0) + 72) dL_isTrain_187 rfl YL_remainingTicks kL_309 (h_remainingTicks hX (by omega)) rfl rfl rfl (Nat.le_of_ble_eq_true rfl) (by decide) (fun w32 k32 hX => ?_)
    have kp := kp.tr k32
    refine J_aload_n dL_isTrain_190 rfl rfl ?_
    refine J_iload_n dL_isTrain_191 rfl rfl ?_
    refine K_h (v := nI (sLen (gS G) (sPl (gS G) t))) (kb := 0 + 11) (sb := 6 * (0) + 66) dL_isTrain_192 rfl YL_length kL_291 (h_length hX (by omega)) rfl rfl rfl (Nat.le_of_ble_eq_true rfl) (by decide) (fun w33 k33 hX => ?_)
    have kp := kp.tr k33
    refine J_icmp_gt (tgt := 210) dL_isTrain_195 (by decide) (fun h => absurd ((nI_ltI (by omega) (by omega)).mp h) (by omega)) (fun h195 => ?_)
    refine J_aload_n dL_isTrain_198 rfl rfl ?_
    refine J_iload_n dL_isTrain_199 rfl rfl ?_
    refine K_h (v := nI kw) (kb := 0 + 10) (sb := 6 * (0) + 60) dL_isTrain_200 rfl YL_waits kL_313 (h_waits hX (by omega)) hwa rfl rfl (Nat.le_of_ble_eq_true rfl) (by decide) (fun w34 k34 hX => ?_)
    have kp := kp.tr k34
    refine J_if_lt (tgt := 210) dL_isTrain_203 (by decide) (fun h => absurd h (nI_pos (by omega))) (fun h203 => ?_)
    refine J_iconst (v := nI 1) dL_isTrain_206 (by decide) ?_
    refine J_goto (tgt := 211) dL_isTrain_207 (by decide) ?_
    refine J_istore dL_isTrain_211 (by decide) rfl ?_
    refine J_iload dL_isTrain_213 rfl ?_
    refine J_if_eq (tgt := 279) dL_isTrain_215 (by decide) (fun h => absurd h (by decide)) (fun h215 => ?_)
    refine J_iload dL_isTrain_218 rfl ?_
    refine J_if_eq (tgt := 279) dL_isTrain_220 (by decide) (fun h => absurd h (by decide)) (fun h220 => ?_)
    refine J_iload dL_isTrain_223 rfl ?_
    refine J_if_eq (tgt := 279) dL_isTrain_225 (by decide) (fun h => absurd h (by decide)) (fun h225 => ?_)
    refine J_aload_n dL_isTrain_228 rfl rfl ?_
    refine J_iload_n dL_isTrain_229 rfl rfl ?_
    refine K_h (v := nI t) (kb := 0 + 9) (sb := 6 * (0) + 54) dL_isTrain_230 rfl YL_trainIn kL_299 (h_trainIn hX (by omega)) (oV_s (tAt_pl hW ht)) rfl rfl (Nat.le_of_ble_eq_true rfl) (by decide) (fun w35 k35 hX => ?_)
    have kp := kp.tr k35
    refine J_iload_n dL_isTrain_233 rfl rfl ?_
    refine J_icmp_ne (tgt := 279) dL_isTrain_234 (by decide) (fun h => absurd ((nI_eq (by omega) (by omega)).mpr (by omega)) h) (fun h234 => ?_)
    cases hgo : sGo (gS G) t with
    | none =>
      rw [show oV none = (-75 : Int32) from rfl]
      cases hof : sOf (gS G) t with
      | false =>
        refine J_iload_n dL_isTrain_237 rfl rfl ?_
        refine J_bipush (v := (-75)) dL_isTrain_238 (by decide) ?_
        refine J_icmp_eq (tgt := 257) dL_isTrain_240 (by decide) (fun h240 => ?_) (fun h => absurd h (by decide))
        refine J_aload_n dL_isTrain_257 rfl rfl ?_
        refine J_iload_n dL_isTrain_258 rfl rfl ?_
        refine K_h (v := nI 0) (kb := 0 + 8) (sb := 6 * (0) + 48) dL_isTrain_259 rfl YL_isDerailed kL_311 (h_isDerailed hX (by omega)) (b2i_f hof) rfl rfl (Nat.le_of_ble_eq_true rfl) (by decide) (fun w41 k41 hX => ?_)
        have kp := kp.tr k41
        refine J_if_eq (tgt := 275) dL_isTrain_262 (by decide) (fun h262 => ?_) (fun h => absurd h (by decide))
        refine J_iconst (v := nI 1) dL_isTrain_275 (by decide) ?_
        refine J_goto (tgt := 280) dL_isTrain_276 (by decide) ?_
        exact J_ireturn dL_isTrain_280 rfl narB1 (RP_i ⟨rfl, kp, hX⟩)
      | true =>
        have hta : aT (gS G) t = none := by unfold aT; rw [hgo]
        refine J_iload_n dL_isTrain_237 rfl rfl ?_
        refine J_bipush (v := (-75)) dL_isTrain_238 (by decide) ?_
        refine J_icmp_eq (tgt := 257) dL_isTrain_240 (by decide) (fun h240 => ?_) (fun h => absurd h (by decide))
        refine J_aload_n dL_isTrain_257 rfl rfl ?_
        refine J_iload_n dL_isTrain_258 rfl rfl ?_
        refine K_h (v := nI 1) (kb := 0 + 8) (sb := 6 * (0) + 48) dL_isTrain_259 rfl YL_isDerailed kL_311 (h_isDerailed hX (by omega)) (b2i_t hof) rfl rfl (Nat.le_of_ble_eq_true rfl) (by decide) (fun w41 k41 hX => ?_)
        have kp := kp.tr k41
        refine J_if_eq (tgt := 275) dL_isTrain_262 (by decide) (fun h => absurd h (by decide)) (fun h262 => ?_)
        refine J_aload_n dL_isTrain_265 rfl rfl ?_
        refine J_iload_n dL_isTrain_266 rfl rfl ?_
        refine K_h (v := (-75)) (kb := 0 + 7) (sb := 6 * (0) + 42) dL_isTrain_267 rfl YL_ticksUntilArrival kL_203 (h_ticksUntilArrival hX (by omega)) (oV_n hta) rfl rfl (Nat.le_of_ble_eq_true rfl) (by decide) (fun w42 k42 hX => ?_)
        have kp := kp.tr k42
        refine J_bipush (v := (-75)) dL_isTrain_270 (by decide) ?_
        refine J_icmp_ne (tgt := 279) dL_isTrain_272 (by decide) (fun h => absurd h (by decide)) (fun h272 => ?_)
        refine J_iconst (v := nI 1) dL_isTrain_275 (by decide) ?_
        refine J_goto (tgt := 280) dL_isTrain_276 (by decide) ?_
        exact J_ireturn dL_isTrain_280 rfl narB1 (RP_i ⟨rfl, kp, hX⟩)
    | some g =>
      have hgg := hg.2.2.2.1 t ht g hgo
      have hg1 := hW.2.2.2.2.2.1 t ht g hgo
      rw [show oV (some g) = nI g from rfl]
      cases hof : sOf (gS G) t with
      | false =>
        refine J_iload_n dL_isTrain_237 rfl rfl ?_
        refine J_bipush (v := (-75)) dL_isTrain_238 (by decide) ?_
        refine J_icmp_eq (tgt := 257) dL_isTrain_240 (by decide) (fun h => absurd h (nI_ne_neg (by omega) (by decide))) (fun h240 => ?_)
        refine J_aload_n dL_isTrain_243 rfl rfl ?_
        refine J_iload_n dL_isTrain_244 rfl rfl ?_
        refine K_h (v := nI 1) (kb := 0 + 8) (sb := 6 * (0) + 48) dL_isTrain_245 rfl YL_isCushion kL_293 (h_isCushion hX (by omega)) (b2i_t hgg.1) rfl rfl (Nat.le_of_ble_eq_true rfl) (by decide) (fun w41 k41 hX => ?_)
        have kp := kp.tr k41
        refine J_iconst (v := nI 1) dL_isTrain_248 (by decide) ?_
        refine J_icmp_ne (tgt := 279) dL_isTrain_249 (by decide) (fun h => absurd h (by decide)) (fun h249 => ?_)
        refine J_iload_n dL_isTrain_252 rfl rfl ?_
        refine J_iload_n dL_isTrain_253 rfl rfl ?_
        refine J_icmp_eq (tgt := 279) dL_isTrain_254 (by decide) (fun h => absurd ((nI_eq (by omega) (by omega)).mp h) (by omega)) (fun h254 => ?_)
        refine J_aload_n dL_isTrain_257 rfl rfl ?_
        refine J_iload_n dL_isTrain_258 rfl rfl ?_
        refine K_h (v := nI 0) (kb := 0 + 7) (sb := 6 * (0) + 42) dL_isTrain_259 rfl YL_isDerailed kL_311 (h_isDerailed hX (by omega)) (b2i_f hof) rfl rfl (Nat.le_of_ble_eq_true rfl) (by decide) (fun w42 k42 hX => ?_)
        have kp := kp.tr k42
        refine J_if_eq (tgt := 275) dL_isTrain_262 (by decide) (fun h262 => ?_) (fun h => absurd h (by decide))
        refine J_iconst (v := nI 1) dL_isTrain_275 (by decide) ?_
        refine J_goto (tgt := 280) dL_isTrain_276 (by decide) ?_
        exact J_ireturn dL_isTrain_280 rfl narB1 (RP_i ⟨rfl, kp, hX⟩)
      | true =>
        have hta : aT (gS G) t = none := by unfold aT; rw [hgo]; exact off_tta hof (by rw [hgo]; exact fun e => by cases e)
        refine J_iload_n dL_isTrain_237 rfl rfl ?_
        refine J_bipush (v := (-75)) dL_isTrain_238 (by decide) ?_
        refine J_icmp_eq (tgt := 257) dL_isTrain_240 (by decide) (fun h => absurd h (nI_ne_neg (by omega) (by decide))) (fun h240 => ?_)
        refine J_aload_n dL_isTrain_243 rfl rfl ?_
        refine J_iload_n dL_isTrain_244 rfl rfl ?_
        refine K_h (v := nI 1) (kb := 0 + 8) (sb := 6 * (0) + 48) dL_isTrain_245 rfl YL_isCushion kL_293 (h_isCushion hX (by omega)) (b2i_t hgg.1) rfl rfl (Nat.le_of_ble_eq_true rfl) (by decide) (fun w41 k41 hX => ?_)
        have kp := kp.tr k41
        refine J_iconst (v := nI 1) dL_isTrain_248 (by decide) ?_
        refine J_icmp_ne (tgt := 279) dL_isTrain_249 (by decide) (fun h => absurd h (by decide)) (fun h249 => ?_)
        refine J_iload_n dL_isTrain_252 rfl rfl ?_
        refine J_iload_n dL_isTrain_253 rfl rfl ?_
        refine J_icmp_eq (tgt := 279) dL_isTrain_254 (by decide) (fun h => absurd ((nI_eq (by omega) (by omega)).mp h) (by omega)) (fun h254 => ?_)
        refine J_aload_n dL_isTrain_257 rfl rfl ?_
        refine J_iload_n dL_isTrain_258 rfl rfl ?_
        refine K_h (v := nI 1) (kb := 0 + 7) (sb := 6 * (0) + 42) dL_isTrain_259 rfl YL_isDerailed kL_311 (h_isDerailed hX (by omega)) (b2i_t hof) rfl rfl (Nat.le_of_ble_eq_true rfl) (by decide) (fun w42 k42 hX => ?_)
        have kp := kp.tr k42
        refine J_if_eq (tgt := 275) dL_isTrain_262 (by decide) (fun h => absurd h (by decide)) (fun h262 => ?_)
        refine J_aload_n dL_isTrain_265 rfl rfl ?_
        refine J_iload_n dL_isTrain_266 rfl rfl ?_
        refine K_h (v := (-75)) (kb := 0 + 6) (sb := 6 * (0) + 36) dL_isTrain_267 rfl YL_ticksUntilArrival kL_203 (h_ticksUntilArrival hX (by omega)) (oV_n hta) rfl rfl (Nat.le_of_ble_eq_true rfl) (by decide) (fun w43 k43 hX => ?_)
        have kp := kp.tr k43
        refine J_bipush (v := (-75)) dL_isTrain_270 (by decide) ?_
        refine J_icmp_ne (tgt := 279) dL_isTrain_272 (by decide) (fun h => absurd h (by decide)) (fun h272 => ?_)
        refine J_iconst (v := nI 1) dL_isTrain_275 (by decide) ?_
        refine J_goto (tgt := 280) dL_isTrain_276 (by decide) ?_
        exact J_ireturn dL_isTrain_280 rfl narB1 (RP_i ⟨rfl, kp, hX⟩)
  have st2 : ∀ w1, KP w w1 x → RepX w1 x G → J 30 mL_isTrain 103 [some (.ref x), some (.int (nI t)), some (.int (nI (sPl (gS G) t))), some (.int (oV (sGo (gS G) t))), some (.int (oV (nx (gS G) t))), some (.int (oV (bk (gS G) t))), some (.int (nI 1)), none, none] [] w1 (0 + 18) (6 * 0 + 108) (YQ w x G) := by
    intro w1 kp hX
    have k3 : ∀ w1, KP w w1 x → RepX w1 x G → J 30 mL_isTrain 177 [some (.ref x), some (.int (nI t)), some (.int (nI (sPl (gS G) t))), some (.int (oV (sGo (gS G) t))), some (.int (oV (nx (gS G) t))), some (.int (oV (bk (gS G) t))), some (.int (nI 1)), some (.int (nI 1)), none] [] w1 (0 + 14) (6 * 0 + 84) (YQ w x G) := st3
    clear st3
    cases hbk : bk (gS G) t with
    | none =>
      rw [hbk, show oV none = (-75 : Int32) from rfl] at k3
      cases hn : nx (gS G) t with
      | none =>
        rw [hn, show oV none = (-75 : Int32) from rfl] at k3
        rw [show oV none = (-75 : Int32) from rfl]
        refine J_iload dL_isTrain_103 rfl ?_
        refine J_bipush (v := (-75)) dL_isTrain_105 (by decide) ?_
        refine J_icmp_ne (tgt := 145) dL_isTrain_107 (by decide) (fun h => absurd h (by decide)) (fun h107 => ?_)
        refine J_iload dL_isTrain_110 rfl ?_
        refine J_bipush (v := (-75)) dL_isTrain_112 (by decide) ?_
        refine J_icmp_eq (tgt := 137) dL_isTrain_114 (by decide) (fun h114 => ?_) (fun h => absurd h (by decide))
        refine J_iconst (v := nI 1) dL_isTrain_137 (by decide) ?_
        refine J_goto (tgt := 175) dL_isTrain_138 (by decide) ?_
        refine J_istore dL_isTrain_175 (by decide) rfl ?_
        exact J.widen (by omega) (by omega) (k3 _ kp hX)
      | some b =>
        rw [hn, show oV (some b) = nI b from rfl] at k3
        rw [show oV none = (-75 : Int32) from rfl, show oV (some b) = nI b from rfl]
        have hb1 := (nx_lt hn).1
        cases hof : sOf (gS G) t with
        | true =>
          refine J_iload dL_isTrain_103 rfl ?_
          refine J_bipush (v := (-75)) dL_isTrain_105 (by decide) ?_
          refine J_icmp_ne (tgt := 145) dL_isTrain_107 (by decide) (fun h => absurd h (by decide)) (fun h107 => ?_)
          refine J_iload dL_isTrain_110 rfl ?_
          refine J_bipush (v := (-75)) dL_isTrain_112 (by decide) ?_
          refine J_icmp_eq (tgt := 137) dL_isTrain_114 (by decide) (fun h => absurd h (nI_ne_neg (by omega) (by decide))) (fun h114 => ?_)
          refine J_aload_n dL_isTrain_117 rfl rfl ?_
          refine J_iload_n dL_isTrain_118 rfl rfl ?_
          refine K_h (v := nI 1) (kb := 0 + 17) (sb := 6 * (0) + 102) dL_isTrain_119 rfl YL_isDerailed kL_311 (h_isDerailed hX (by omega)) (b2i_t hof) rfl rfl (Nat.le_of_ble_eq_true rfl) (by decide) (fun w21 k21 hX => ?_)
          have kp := kp.tr k21
          refine J_iconst (v := nI 1) dL_isTrain_122 (by decide) ?_
          refine J_icmp_eq (tgt := 137) dL_isTrain_123 (by decide) (fun h123 => ?_) (fun h => absurd h (by decide))
          refine J_iconst (v := nI 1) dL_isTrain_137 (by decide) ?_
          refine J_goto (tgt := 175) dL_isTrain_138 (by decide) ?_
          refine J_istore dL_isTrain_175 (by decide) rfl ?_
          exact J.widen (by omega) (by omega) (k3 _ kp hX)
        | false =>
          have hta : tAt (gS G) b = none := by
            rcases bk_none hbk with e | e | ⟨b', e1, e2⟩
            · rw [hn] at e; cases e
            · rw [hof] at e; cases e
            · rw [hn] at e1; cases e1; exact e2
          refine J_iload dL_isTrain_103 rfl ?_
          refine J_bipush (v := (-75)) dL_isTrain_105 (by decide) ?_
          refine J_icmp_ne (tgt := 145) dL_isTrain_107 (by decide) (fun h => absurd h (by decide)) (fun h107 => ?_)
          refine J_iload dL_isTrain_110 rfl ?_
          refine J_bipush (v := (-75)) dL_isTrain_112 (by decide) ?_
          refine J_icmp_eq (tgt := 137) dL_isTrain_114 (by decide) (fun h => absurd h (nI_ne_neg (by omega) (by decide))) (fun h114 => ?_)
          refine J_aload_n dL_isTrain_117 rfl rfl ?_
          refine J_iload_n dL_isTrain_118 rfl rfl ?_
          refine K_h (v := nI 0) (kb := 0 + 17) (sb := 6 * (0) + 102) dL_isTrain_119 rfl YL_isDerailed kL_311 (h_isDerailed hX (by omega)) (b2i_f hof) rfl rfl (Nat.le_of_ble_eq_true rfl) (by decide) (fun w21 k21 hX => ?_)
          have kp := kp.tr k21
          refine J_iconst (v := nI 1) dL_isTrain_122 (by decide) ?_
          refine J_icmp_eq (tgt := 137) dL_isTrain_123 (by decide) (fun h => absurd h (by decide)) (fun h123 => ?_)
          refine J_aload_n dL_isTrain_126 rfl rfl ?_
          refine J_iload dL_isTrain_127 rfl ?_
          refine K_h (v := (-75)) (kb := 0 + 16) (sb := 6 * (0) + 96) dL_isTrain_129 rfl YL_trainIn kL_299 (h_trainIn hX (by omega)) (oV_n hta) rfl rfl (Nat.le_of_ble_eq_true rfl) (by decide) (fun w22 k22 hX => ?_)
          have kp := kp.tr k22
          refine J_bipush (v := (-75)) dL_isTrain_132 (by decide) ?_
          refine J_icmp_ne (tgt := 141) dL_isTrain_134 (by decide) (fun h => absurd h (by decide)) (fun h134 => ?_)
          refine J_iconst (v := nI 1) dL_isTrain_137 (by decide) ?_
          refine J_goto (tgt := 175) dL_isTrain_138 (by decide) ?_
          refine J_istore dL_isTrain_175 (by decide) rfl ?_
          exact J.widen (by omega) (by omega) (k3 _ kp hX)
    | some u =>
      obtain ⟨b, hn, hne, hof, hul, hpu⟩ := bk_some hg ht hbk
      rw [hbk, hn, show oV (some u) = nI u from rfl, show oV (some b) = nI b from rfl] at k3
      rw [hn, show oV (some u) = nI u from rfl, show oV (some b) = nI b from rfl]
      have hb1 := (nx_lt hn).1
      refine J_iload dL_isTrain_103 rfl ?_
      refine J_bipush (v := (-75)) dL_isTrain_105 (by decide) ?_
      refine J_icmp_ne (tgt := 145) dL_isTrain_107 (by decide) (fun h107 => ?_) (fun h => absurd h (nI_ne_neg (by omega) (by decide)))
      refine J_iload dL_isTrain_145 rfl ?_
      refine J_iload_n dL_isTrain_147 rfl rfl ?_
      refine J_icmp_eq (tgt := 174) dL_isTrain_148 (by decide) (fun h => absurd ((nI_eq (by omega) (by omega)).mp h) (by omega)) (fun h148 => ?_)
      refine J_aload_n dL_isTrain_151 rfl rfl ?_
      refine J_iload_n dL_isTrain_152 rfl rfl ?_
      refine K_h (v := nI 0) (kb := 0 + 17) (sb := 6 * (0) + 102) dL_isTrain_153 rfl YL_isDerailed kL_311 (h_isDerailed hX (by omega)) (b2i_f hof) rfl rfl (Nat.le_of_ble_eq_true rfl) (by decide) (fun w21 k21 hX => ?_)
      have kp := kp.tr k21
      refine J_if_ne (tgt := 174) dL_isTrain_156 (by decide) (fun h => absurd h (by decide)) (fun h156 => ?_)
      refine J_aload_n dL_isTrain_159 rfl rfl ?_
      refine J_iload dL_isTrain_160 rfl ?_
      refine K_h (v := nI b) (kb := 0 + 16) (sb := 6 * (0) + 96) dL_isTrain_162 rfl YL_blockOf kL_303 (h_blockOf hX (by omega)) (congrArg nI hpu) rfl rfl (Nat.le_of_ble_eq_true rfl) (by decide) (fun w22 k22 hX => ?_)
      have kp := kp.tr k22
      refine J_iload dL_isTrain_165 rfl ?_
      refine J_icmp_ne (tgt := 174) dL_isTrain_167 (by decide) (fun h => absurd ((nI_eq (by omega) (by omega)).mpr (by omega)) h) (fun h167 => ?_)
      refine J_iconst (v := nI 1) dL_isTrain_170 (by decide) ?_
      refine J_goto (tgt := 175) dL_isTrain_171 (by decide) ?_
      refine J_istore dL_isTrain_175 (by decide) rfl ?_
      exact J.widen (by omega) (by omega) (k3 _ kp hX)
  have kp := KP.rf w x
  refine J.widen (kb' := 0 + 30) (sb' := 6 * 0 + 180) (by omega) (by omega) ?_
  refine J_aload_n dL_isTrain_0 rfl rfl ?_
  refine J_iload_n dL_isTrain_1 rfl rfl ?_
  refine K_h (v := nI (sPl (gS G) t)) (kb := 0 + 29) (sb := 6 * (0) + 174) dL_isTrain_2 rfl YL_blockOf kL_303 (h_blockOf hX (by omega)) rfl rfl rfl (Nat.le_of_ble_eq_true rfl) (by decide) (fun w2 k2 hX => ?_)
  have kp := kp.tr k2
  refine J_istore_n dL_isTrain_5 rfl (by decide) rfl ?_
  refine J_aload_n dL_isTrain_6 rfl rfl ?_
  refine J_iload_n dL_isTrain_7 rfl rfl ?_
  refine K_h (v := oV (sGo (gS G) t)) (kb := 0 + 28) (sb := 6 * (0) + 168) dL_isTrain_8 rfl YL_goal kL_211 (h_goal hX (by omega)) rfl rfl rfl (Nat.le_of_ble_eq_true rfl) (by decide) (fun w3 k3 hX => ?_)
  have kp := kp.tr k3
  refine J_istore_n dL_isTrain_11 rfl (by decide) rfl ?_
  refine J_aload_n dL_isTrain_12 rfl rfl ?_
  refine J_iload_n dL_isTrain_13 rfl rfl ?_
  refine K_h (v := oV (nx (gS G) t)) (kb := 0 + 27) (sb := 6 * (0) + 162) dL_isTrain_14 rfl YL_nextBlock kL_329 (h_nextBlock hX (by omega)) rfl rfl rfl (Nat.le_of_ble_eq_true rfl) (by decide) (fun w4 k4 hX => ?_)
  have kp := kp.tr k4
  refine J_istore dL_isTrain_17 (by decide) rfl ?_
  refine J_aload_n dL_isTrain_19 rfl rfl ?_
  refine J_iload_n dL_isTrain_20 rfl rfl ?_
  refine K_h (v := oV (bk (gS G) t)) (kb := 0 + 26) (sb := 6 * (0) + 156) dL_isTrain_21 rfl YL_blockedBy kL_331 (h_blockedBy hX (by omega)) rfl rfl rfl (Nat.le_of_ble_eq_true rfl) (by decide) (fun w5 k5 hX => ?_)
  have kp := kp.tr k5
  refine J_istore dL_isTrain_24 (by decide) rfl ?_
  have k2 : ∀ w1, KP w w1 x → RepX w1 x G → J 30 mL_isTrain 103 [some (.ref x), some (.int (nI t)), some (.int (nI (sPl (gS G) t))), some (.int (oV (sGo (gS G) t))), some (.int (oV (nx (gS G) t))), some (.int (oV (bk (gS G) t))), some (.int (nI 1)), none, none] [] w1 (0 + 18) (6 * 0 + 108) (YQ w x G) := st2
  clear st2 st3
  cases hn : nx (gS G) t with
  | none =>
    rw [hn, show oV none = (-75 : Int32) from rfl] at k2
    rw [show oV none = (-75 : Int32) from rfl]
    cases hgo : sGo (gS G) t with
    | none =>
      rw [hgo, show oV none = (-75 : Int32) from rfl] at k2
      rw [show oV none = (-75 : Int32) from rfl]
      refine J_iload dL_isTrain_26 rfl ?_
      refine J_bipush (v := (-75)) dL_isTrain_28 (by decide) ?_
      refine J_icmp_ne (tgt := 58) dL_isTrain_30 (by decide) (fun h => absurd h (by decide)) (fun h30 => ?_)
      refine J_iload_n dL_isTrain_33 rfl rfl ?_
      refine J_bipush (v := (-75)) dL_isTrain_34 (by decide) ?_
      refine J_icmp_eq (tgt := 50) dL_isTrain_36 (by decide) (fun h36 => ?_) (fun h => absurd h (by decide))
      refine J_iconst (v := nI 1) dL_isTrain_50 (by decide) ?_
      refine J_goto (tgt := 101) dL_isTrain_51 (by decide) ?_
      refine J_istore dL_isTrain_101 (by decide) rfl ?_
      exact J.widen (by omega) (by omega) (k2 _ kp hX)
    | some g =>
      rw [hgo, show oV (some g) = nI g from rfl] at k2
      rw [show oV (some g) = nI g from rfl]
      have hg1 := hW.2.2.2.2.2.1 t ht g hgo
      have hds : dS (gS G) (sPl (gS G) t) g = none := by
        rcases nx_none hg ht hn with e | ⟨g', e1, e2⟩
        · rw [hgo] at e; cases e
        · rw [hgo] at e1; cases e1; exact e2
      refine J_iload dL_isTrain_26 rfl ?_
      refine J_bipush (v := (-75)) dL_isTrain_28 (by decide) ?_
      refine J_icmp_ne (tgt := 58) dL_isTrain_30 (by decide) (fun h => absurd h (by decide)) (fun h30 => ?_)
      refine J_iload_n dL_isTrain_33 rfl rfl ?_
      refine J_bipush (v := (-75)) dL_isTrain_34 (by decide) ?_
      refine J_icmp_eq (tgt := 50) dL_isTrain_36 (by decide) (fun h => absurd h (nI_ne_neg (by omega) (by decide))) (fun h36 => ?_)
      refine J_aload_n dL_isTrain_39 rfl rfl ?_
      refine J_iload_n dL_isTrain_40 rfl rfl ?_
      refine J_iload_n dL_isTrain_41 rfl rfl ?_
      refine K_h (v := (-75)) (kb := 0 + 25) (sb := 6 * (0) + 150) dL_isTrain_42 rfl YL_distance kL_317 (h_distance hX (by omega) (by omega)) (oV_n hds) rfl rfl (Nat.le_of_ble_eq_true rfl) (by decide) (fun w6 k6 hX => ?_)
      have kp := kp.tr k6
      refine J_bipush (v := (-75)) dL_isTrain_45 (by decide) ?_
      refine J_icmp_ne (tgt := 54) dL_isTrain_47 (by decide) (fun h => absurd h (by decide)) (fun h47 => ?_)
      refine J_iconst (v := nI 1) dL_isTrain_50 (by decide) ?_
      refine J_goto (tgt := 101) dL_isTrain_51 (by decide) ?_
      refine J_istore dL_isTrain_101 (by decide) rfl ?_
      exact J.widen (by omega) (by omega) (k2 _ kp hX)
  | some b =>
    obtain ⟨g, c, c', hgo, hl, hc, hc', hcc⟩ := nx_some hn
    rw [hn, hgo, show oV (some b) = nI b from rfl, show oV (some g) = nI g from rfl] at k2
    rw [hgo, show oV (some b) = nI b from rfl, show oV (some g) = nI g from rfl]
    have hg1 := hW.2.2.2.2.2.1 t ht g hgo
    have hb1 := (nx_lt hn).1
    have hbl := hW.2.1 b hb1
    have hcb := dS_le hW hg1 hc
    have hcb' := dS_le hW hg1 hc'
    refine J_iload dL_isTrain_26 rfl ?_
    refine J_bipush (v := (-75)) dL_isTrain_28 (by decide) ?_
    refine J_icmp_ne (tgt := 58) dL_isTrain_30 (by decide) (fun h30 => ?_) (fun h => absurd h (nI_ne_neg (by omega) (by decide)))
    refine J_iload_n dL_isTrain_58 rfl rfl ?_
    refine J_if_lt (tgt := 100) dL_isTrain_59 (by decide) (fun h => absurd h (nI_pos (by omega))) (fun h59 => ?_)
    refine J_aload_n dL_isTrain_62 rfl rfl ?_
    refine J_iload_n dL_isTrain_63 rfl rfl ?_
    refine J_iload dL_isTrain_64 rfl ?_
    refine K_h (v := nI 1) (kb := 0 + 25) (sb := 6 * (0) + 150) dL_isTrain_66 rfl YL_areLinked kL_301 (h_areLinked hX (by omega) (by omega)) (b2i_t hl) rfl rfl (Nat.le_of_ble_eq_true rfl) (by decide) (fun w6 k6 hX => ?_)
    have kp := kp.tr k6
    refine J_iconst (v := nI 1) dL_isTrain_69 (by decide) ?_
    refine J_icmp_ne (tgt := 100) dL_isTrain_70 (by decide) (fun h => absurd h (by decide)) (fun h70 => ?_)
    refine J_aload_n dL_isTrain_73 rfl rfl ?_
    refine J_iload_n dL_isTrain_74 rfl rfl ?_
    refine J_iload_n dL_isTrain_75 rfl rfl ?_
    refine K_h (v := nI c) (kb := 0 + 24) (sb := 6 * (0) + 144) dL_isTrain_76 rfl YL_distance kL_317 (h_distance hX (by omega) (by omega)) (oV_s hc) rfl rfl (Nat.le_of_ble_eq_true rfl) (by decide) (fun w7 k7 hX => ?_)
    have kp := kp.tr k7
    refine J_aload_n dL_isTrain_79 rfl rfl ?_
    refine J_iload dL_isTrain_80 rfl ?_
    refine K_h (v := nI (sLen (gS G) b)) (kb := 0 + 23) (sb := 6 * (0) + 138) dL_isTrain_82 rfl YL_length kL_291 (h_length hX (by omega)) rfl rfl rfl (Nat.le_of_ble_eq_true rfl) (by decide) (fun w8 k8 hX => ?_)
    have kp := kp.tr k8
    refine J_aload_n dL_isTrain_85 rfl rfl ?_
    refine J_iload dL_isTrain_86 rfl ?_
    refine J_iload_n dL_isTrain_88 rfl rfl ?_
    refine K_h (v := nI c') (kb := 0 + 22) (sb := 6 * (0) + 132) dL_isTrain_89 rfl YL_distance kL_317 (h_distance hX (by omega) (by omega)) (oV_s hc') rfl rfl (Nat.le_of_ble_eq_true rfl) (by decide) (fun w9 k9 hX => ?_)
    have kp := kp.tr k9
    refine K_iadd (v := nI (sLen (gS G) b + c')) dL_isTrain_92 (nI_add _ _) ?_
    refine J_icmp_ne (tgt := 100) dL_isTrain_93 (by decide) (fun h => absurd ((nI_eq (by omega) (by omega)).mpr (by omega)) h) (fun h93 => ?_)
    refine J_iconst (v := nI 1) dL_isTrain_96 (by decide) ?_
    refine J_goto (tgt := 101) dL_isTrain_97 (by decide) ?_
    refine J_istore dL_isTrain_101 (by decide) rfl ?_
    exact J.widen (by omega) (by omega) (k2 _ kp hX)

end JTRN

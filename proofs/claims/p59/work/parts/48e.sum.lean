/-! THE LAW: sum -/
section JSUM
theorem kl_287 : Cond.constantLong RL 287 31 ∈ AL := AL_in (T5 (List.mem_of_getElem? (i := 103) rfl)) rfl
theorem kl_289 : Cond.constantLong RL 289 1009 ∈ AL := AL_in (T5 (List.mem_of_getElem? (i := 104) rfl)) rfl
theorem kl_305 : Cond.constantLong RL 305 101 ∈ AL := AL_in (T5 (List.mem_of_getElem? (i := 168) rfl)) rfl
def sB (S : St) (b : Nat) (v : Int64) : Int64 := (((31 * ((((31 * v) + (1009 * (nI (sLen S b)).toInt64)) + (31 * (b2i (sCu S b)).toInt64)) + (nI (sgn S b)).toInt64)) + (31 * (oV (hOf S b)).toInt64)) + (oV (tAt S b)).toInt64)
def sA (S : St) (b a : Nat) (v : Int64) : Int64 := ((31 * v) + (b2i (sLk S a b)).toInt64)
def sT (S : St) (t : Nat) (v : Int64) : Int64 := ((((31 * ((((31 * v) + (1009 * (nI (sPl S t)).toInt64)) + (101 * (nI (sPr S t)).toInt64)) + (31 * (nI (sRe S t)).toInt64))) + (101 * (oV (sGo S t)).toInt64)) + (31 * (b2i (sOf S t)).toInt64)) + (sWa S t).toInt64)
def sumA (S : St) (b : Nat) (v : Int64) : Nat → Int64
  | 0 => v
  | a + 1 => sA S b a (sumA S b v a)
def sumB (S : St) : Nat → Int64
  | 0 => ((31 * (sTk S).toInt64) + (sAr S).toInt64)
  | b + 1 => sumA S b (sB S b (sumB S b)) b
def sumT (S : St) : Nat → Int64
  | 0 => sumB S (sNb S)
  | t + 1 => sT S t (sumT S t)
/-- the railway's sum, as the law forms it -/
def sumS (S : St) : Int64 := sumT S (sNt S)
def SQ (w : Wd) (x : Nat) (G : Gme) : Po := RP (fun r w' => r = some (.long (sumS (gS G))) ∧ KP w w' x ∧ RepX w' x G)
set_option maxRecDepth 100000 in
theorem c_L_sum {w : Wd} {x : Nat} {G : Gme} (hX : RepX w x G) : MC 30 mL_sum 400 2400 [.ref x] w (SQ w x G) := by
  refine MC_of pnL rfl (fun v hv => by simp only [List.mem_cons, List.not_mem_nil, or_false] at hv; rcases hv with rfl; rfl) (Nat.le_of_ble_eq_true rfl) (Or.inr (fun E w h => RP_no E w h)) ?_
  show J 30 mL_sum 0 [some (.ref x), none, none, none, none] [] w 400 2400 _
  have hnb := hX.wf.nb
  have hnt := hX.wf.nt
  have loopT : ∀ n t v w1 o4, t + n = sNt (gS G) → v = sumT (gS G) t → KP w w1 x → RepX w1 x G → J 30 mL_sum 123 [some (.ref x), some (.long v), none, some (.int (nI t)), o4] [] w1 (7 * n + 1) (6 * (7 * n + 1)) (SQ w x G) := by
    intro n
    induction n with
    | zero =>
      intro t v w1 o4 ht hv kp hX
      refine J.widen (kb' := 0 + 1) (sb' := 6 * 0 + 6) (by omega) (by omega) ?_
      refine J_iload_n dL_sum_123 rfl rfl ?_
      refine J_aload_n dL_sum_124 rfl rfl ?_
      refine K_hV (v := nI (sNt (gS G))) (kb := 0 + 0) (sb := 6 * (0) + 0) dL_sum_125 YX8_trainCount kL_200 hX.rc (c_X8_trainCount hX) rfl rfl rfl (Nat.le_of_ble_eq_true rfl) (by decide) (fun w2 k2 hX => ?_)
      have kp := kp.tr k2
      refine J_icmp_ge (tgt := 211) dL_sum_128 (by decide) (fun h128 => ?_) (fun h => absurd ((nI_leI (by omega) (by omega)).mpr (by omega)) h)
      refine J_lload_n dL_sum_211 rfl rfl ?_
      exact J_lreturn dL_sum_212 rfl (RP_i ⟨by rw [hv, show t = sNt (gS G) by omega]; rfl, kp, hX⟩)
    | succ n ih =>
      intro t v w1 o4 ht hv kp hX
      refine J.widen (kb' := (7 * n + 1) + 7) (sb' := 6 * (7 * n + 1) + 42) (by omega) (by omega) ?_
      refine J_iload_n dL_sum_123 rfl rfl ?_
      refine J_aload_n dL_sum_124 rfl rfl ?_
      refine K_hV (v := nI (sNt (gS G))) (kb := 7 * n + 1 + 6) (sb := 6 * (7 * n + 1) + 36) dL_sum_125 YX8_trainCount kL_200 hX.rc (c_X8_trainCount hX) rfl rfl rfl (Nat.le_of_ble_eq_true rfl) (by decide) (fun w2 k2 hX => ?_)
      have kp := kp.tr k2
      refine J_icmp_ge (tgt := 211) dL_sum_128 (by decide) (fun h => absurd ((nI_leI (by omega) (by omega)).mp h) (by omega)) (fun h128 => ?_)
      refine J_ldc2 dL_sum_131 kl_287 ?_
      refine J_lload_n dL_sum_134 rfl rfl ?_
      refine J_lmul dL_sum_135 ?_
      refine J_ldc2 dL_sum_136 kl_289 ?_
      refine J_aload_n dL_sum_139 rfl rfl ?_
      refine J_iload_n dL_sum_140 rfl rfl ?_
      refine K_h (v := nI (sPl (gS G) t)) (kb := 7 * n + 1 + 5) (sb := 6 * (7 * n + 1) + 30) dL_sum_141 rfl YL_blockOf kL_303 (h_blockOf hX (by omega)) rfl rfl rfl (Nat.le_of_ble_eq_true rfl) (by decide) (fun w3 k3 hX => ?_)
      have kp := kp.tr k3
      refine J_i2l dL_sum_144 rfl ?_
      refine J_lmul dL_sum_145 ?_
      refine J_ladd dL_sum_146 ?_
      refine J_ldc2 dL_sum_147 kl_305 ?_
      refine J_aload_n dL_sum_150 rfl rfl ?_
      refine J_iload_n dL_sum_151 rfl rfl ?_
      refine K_h (v := nI (sPr (gS G) t)) (kb := 7 * n + 1 + 4) (sb := 6 * (7 * n + 1) + 24) dL_sum_152 rfl YL_priority kL_307 (h_priority hX (by omega)) rfl rfl rfl (Nat.le_of_ble_eq_true rfl) (by decide) (fun w4 k4 hX => ?_)
      have kp := kp.tr k4
      refine J_i2l dL_sum_155 rfl ?_
      refine J_lmul dL_sum_156 ?_
      refine J_ladd dL_sum_157 ?_
      refine J_ldc2 dL_sum_158 kl_287 ?_
      refine J_aload_n dL_sum_161 rfl rfl ?_
      refine J_iload_n dL_sum_162 rfl rfl ?_
      refine K_h (v := nI (sRe (gS G) t)) (kb := 7 * n + 1 + 3) (sb := 6 * (7 * n + 1) + 18) dL_sum_163 rfl YL_remainingTicks kL_309 (h_remainingTicks hX (by omega)) rfl rfl rfl (Nat.le_of_ble_eq_true rfl) (by decide) (fun w5 k5 hX => ?_)
      have kp := kp.tr k5
      refine J_i2l dL_sum_166 rfl ?_
      refine J_lmul dL_sum_167 ?_
      refine J_ladd dL_sum_168 ?_
      refine J_lstore_n dL_sum_169 rfl (by decide) rfl ?_
      refine J_ldc2 dL_sum_170 kl_287 ?_
      refine J_lload_n dL_sum_173 rfl rfl ?_
      refine J_lmul dL_sum_174 ?_
      refine J_ldc2 dL_sum_175 kl_305 ?_
      refine J_aload_n dL_sum_178 rfl rfl ?_
      refine J_iload_n dL_sum_179 rfl rfl ?_
      refine K_h (v := oV (sGo (gS G) t)) (kb := 7 * n + 1 + 2) (sb := 6 * (7 * n + 1) + 12) dL_sum_180 rfl YL_goal kL_211 (h_goal hX (by omega)) rfl rfl rfl (Nat.le_of_ble_eq_true rfl) (by decide) (fun w6 k6 hX => ?_)
      have kp := kp.tr k6
      refine J_i2l dL_sum_183 rfl ?_
      refine J_lmul dL_sum_184 ?_
      refine J_ladd dL_sum_185 ?_
      refine J_ldc2 dL_sum_186 kl_287 ?_
      refine J_aload_n dL_sum_189 rfl rfl ?_
      refine J_iload_n dL_sum_190 rfl rfl ?_
      refine K_h (v := b2i (sOf (gS G) t)) (kb := 7 * n + 1 + 1) (sb := 6 * (7 * n + 1) + 6) dL_sum_191 rfl YL_isDerailed kL_311 (h_isDerailed hX (by omega)) rfl rfl rfl (Nat.le_of_ble_eq_true rfl) (by decide) (fun w7 k7 hX => ?_)
      have kp := kp.tr k7
      refine J_i2l dL_sum_194 rfl ?_
      refine J_lmul dL_sum_195 ?_
      refine J_ladd dL_sum_196 ?_
      refine J_aload_n dL_sum_197 rfl rfl ?_
      refine J_iload_n dL_sum_198 rfl rfl ?_
      refine K_h (v := sWa (gS G) t) (kb := 7 * n + 1 + 0) (sb := 6 * (7 * n + 1) + 0) dL_sum_199 rfl YL_waits kL_313 (h_waits hX (by omega)) rfl rfl rfl (Nat.le_of_ble_eq_true rfl) (by decide) (fun w8 k8 hX => ?_)
      have kp := kp.tr k8
      refine J_i2l dL_sum_202 rfl ?_
      refine J_ladd dL_sum_203 ?_
      refine J_lstore_n dL_sum_204 rfl (by decide) rfl ?_
      refine J_iinc (v := nI (t + 1)) dL_sum_205 rfl (nI_succ _).symm (by decide) rfl ?_
      refine J_goto (tgt := 123) dL_sum_208 (by decide) ?_
      exact ih (t + 1) _ _ _ (by omega) (by rw [hv]; rfl) kp hX
  have loopA : ∀ n b, b + 1 + n = sNb (gS G) → (∀ v w1 o4, v = sumB (gS G) (b + 1) → KP w w1 x → RepX w1 x G → J 30 mL_sum 18 [some (.ref x), some (.long v), none, some (.int (nI (b + 1))), o4] [] w1 (20 * n + 45) (6 * (20 * n + 45)) (SQ w x G)) → ∀ m a v w1, a + m = b → v = sumA (gS G) b (sB (gS G) b (sumB (gS G) b)) a → KP w w1 x → RepX w1 x G → J 30 mL_sum 88 [some (.ref x), some (.long v), none, some (.int (nI b)), some (.int (nI a))] [] w1 (20 * n + 45 + m) (6 * (20 * n + 45) + 6 * m) (SQ w x G) := by
    intro n b hb kB m
    induction m with
    | zero =>
      intro a v w1 ha hv kp hX
      refine J_iload dL_sum_88 rfl ?_
      refine J_iload_n dL_sum_90 rfl rfl ?_
      refine J_icmp_ge (tgt := 115) dL_sum_91 (by decide) (fun h91 => ?_) (fun h => absurd ((nI_leI (by omega) (by omega)).mpr (by omega)) h)
      refine J_iinc (v := nI (b + 1)) dL_sum_115 rfl (nI_succ _).symm (by decide) rfl ?_
      refine J_goto (tgt := 18) dL_sum_118 (by decide) ?_
      exact kB _ _ _ (by rw [hv, show a = b by omega]; rfl) kp hX
    | succ m ih =>
      intro a v w1 ha hv kp hX
      refine J.widen (kb' := (20 * n + 45 + m) + 1) (sb' := (6 * (20 * n + 45) + 6 * m) + 6) (by omega) (by omega) ?_
      refine J_iload dL_sum_88 rfl ?_
      refine J_iload_n dL_sum_90 rfl rfl ?_
      refine J_icmp_ge (tgt := 115) dL_sum_91 (by decide) (fun h => absurd ((nI_leI (by omega) (by omega)).mp h) (by omega)) (fun h91 => ?_)
      refine J_ldc2 dL_sum_94 kl_287 ?_
      refine J_lload_n dL_sum_97 rfl rfl ?_
      refine J_lmul dL_sum_98 ?_
      refine J_aload_n dL_sum_99 rfl rfl ?_
      refine J_iload dL_sum_100 rfl ?_
      refine J_iload_n dL_sum_102 rfl rfl ?_
      refine K_h (v := b2i (sLk (gS G) a b)) (kb := 20 * n + 45 + m) (sb := 6 * (20 * n + 45) + 6 * m) dL_sum_103 rfl YL_areLinked kL_301 (h_areLinked hX (by omega) (by omega)) rfl rfl rfl (Nat.le_of_ble_eq_true rfl) (by decide) (fun w2 k2 hX => ?_)
      have kp := kp.tr k2
      refine J_i2l dL_sum_106 rfl ?_
      refine J_ladd dL_sum_107 ?_
      refine J_lstore_n dL_sum_108 rfl (by decide) rfl ?_
      refine J_iinc (v := nI (a + 1)) dL_sum_109 rfl (nI_succ _).symm (by decide) rfl ?_
      refine J_goto (tgt := 88) dL_sum_112 (by decide) ?_
      exact ih (a + 1) _ _ (by omega) (by rw [hv]; rfl) kp hX
  have loopB : ∀ n b v w1 o4, b + n = sNb (gS G) → v = sumB (gS G) b → KP w w1 x → RepX w1 x G → J 30 mL_sum 18 [some (.ref x), some (.long v), none, some (.int (nI b)), o4] [] w1 (20 * n + 45) (6 * (20 * n + 45)) (SQ w x G) := by
    intro n
    induction n with
    | zero =>
      intro b v w1 o4 hb hv kp hX
      refine J.widen (kb' := 43 + 1) (sb' := 6 * 43 + 6) (by omega) (by omega) ?_
      refine J_iload_n dL_sum_18 rfl rfl ?_
      refine J_aload_n dL_sum_19 rfl rfl ?_
      refine K_hV (v := nI (sNb (gS G))) (kb := 43 + 0) (sb := 6 * (43) + 0) dL_sum_20 YX8_blockCount kL_225 hX.rc (c_X8_blockCount hX) rfl rfl rfl (Nat.le_of_ble_eq_true rfl) (by decide) (fun w2 k2 hX => ?_)
      have kp := kp.tr k2
      refine J_icmp_ge (tgt := 121) dL_sum_23 (by decide) (fun h23 => ?_) (fun h => absurd ((nI_leI (by omega) (by omega)).mpr (by omega)) h)
      refine J_iconst (v := nI 0) dL_sum_121 (by decide) ?_
      refine J_istore_n dL_sum_122 rfl (by decide) rfl ?_
      exact J.widen (by omega) (by omega) (loopT (sNt (gS G)) 0 v _ o4 (by omega) (by rw [hv, show b = sNb (gS G) by omega]; rfl) kp hX)
    | succ n ih =>
      intro b v w1 o4 hb hv kp hX
      refine J.widen (kb' := (20 * n + 45 + 14) + 6) (sb' := 6 * (20 * n + 45 + 14) + 36) (by omega) (by omega) ?_
      refine J_iload_n dL_sum_18 rfl rfl ?_
      refine J_aload_n dL_sum_19 rfl rfl ?_
      refine K_hV (v := nI (sNb (gS G))) (kb := 20 * n + 45 + 14 + 5) (sb := 6 * (20 * n + 45 + 14) + 30) dL_sum_20 YX8_blockCount kL_225 hX.rc (c_X8_blockCount hX) rfl rfl rfl (Nat.le_of_ble_eq_true rfl) (by decide) (fun w2 k2 hX => ?_)
      have kp := kp.tr k2
      refine J_icmp_ge (tgt := 121) dL_sum_23 (by decide) (fun h => absurd ((nI_leI (by omega) (by omega)).mp h) (by omega)) (fun h23 => ?_)
      refine J_ldc2 dL_sum_26 kl_287 ?_
      refine J_lload_n dL_sum_29 rfl rfl ?_
      refine J_lmul dL_sum_30 ?_
      refine J_ldc2 dL_sum_31 kl_289 ?_
      refine J_aload_n dL_sum_34 rfl rfl ?_
      refine J_iload_n dL_sum_35 rfl rfl ?_
      refine K_h (v := nI (sLen (gS G) b)) (kb := 20 * n + 45 + 14 + 4) (sb := 6 * (20 * n + 45 + 14) + 24) dL_sum_36 rfl YL_length kL_291 (h_length hX (by omega)) rfl rfl rfl (Nat.le_of_ble_eq_true rfl) (by decide) (fun w3 k3 hX => ?_)
      have kp := kp.tr k3
      refine J_i2l dL_sum_39 rfl ?_
      refine J_lmul dL_sum_40 ?_
      refine J_ladd dL_sum_41 ?_
      refine J_ldc2 dL_sum_42 kl_287 ?_
      refine J_aload_n dL_sum_45 rfl rfl ?_
      refine J_iload_n dL_sum_46 rfl rfl ?_
      refine K_h (v := b2i (sCu (gS G) b)) (kb := 20 * n + 45 + 14 + 3) (sb := 6 * (20 * n + 45 + 14) + 18) dL_sum_47 rfl YL_isCushion kL_293 (h_isCushion hX (by omega)) rfl rfl rfl (Nat.le_of_ble_eq_true rfl) (by decide) (fun w4 k4 hX => ?_)
      have kp := kp.tr k4
      refine J_i2l dL_sum_50 rfl ?_
      refine J_lmul dL_sum_51 ?_
      refine J_ladd dL_sum_52 ?_
      refine J_aload_n dL_sum_53 rfl rfl ?_
      refine J_iload_n dL_sum_54 rfl rfl ?_
      refine K_h (v := nI (sgn (gS G) b)) (kb := 20 * n + 45 + 14 + 2) (sb := 6 * (20 * n + 45 + 14) + 12) dL_sum_55 rfl YL_signal kL_295 (h_signal hX (by omega)) rfl rfl rfl (Nat.le_of_ble_eq_true rfl) (by decide) (fun w5 k5 hX => ?_)
      have kp := kp.tr k5
      refine J_i2l dL_sum_58 rfl ?_
      refine J_ladd dL_sum_59 ?_
      refine J_lstore_n dL_sum_60 rfl (by decide) rfl ?_
      refine J_ldc2 dL_sum_61 kl_287 ?_
      refine J_lload_n dL_sum_64 rfl rfl ?_
      refine J_lmul dL_sum_65 ?_
      refine J_ldc2 dL_sum_66 kl_287 ?_
      refine J_aload_n dL_sum_69 rfl rfl ?_
      refine J_iload_n dL_sum_70 rfl rfl ?_
      refine K_h (v := oV (hOf (gS G) b)) (kb := 20 * n + 45 + 14 + 1) (sb := 6 * (20 * n + 45 + 14) + 6) dL_sum_71 rfl YL_reservedBy kL_297 (h_reservedBy hX (by omega)) rfl rfl rfl (Nat.le_of_ble_eq_true rfl) (by decide) (fun w6 k6 hX => ?_)
      have kp := kp.tr k6
      refine J_i2l dL_sum_74 rfl ?_
      refine J_lmul dL_sum_75 ?_
      refine J_ladd dL_sum_76 ?_
      refine J_aload_n dL_sum_77 rfl rfl ?_
      refine J_iload_n dL_sum_78 rfl rfl ?_
      refine K_h (v := oV (tAt (gS G) b)) (kb := 20 * n + 45 + 14 + 0) (sb := 6 * (20 * n + 45 + 14) + 0) dL_sum_79 rfl YL_trainIn kL_299 (h_trainIn hX (by omega)) rfl rfl rfl (Nat.le_of_ble_eq_true rfl) (by decide) (fun w7 k7 hX => ?_)
      have kp := kp.tr k7
      refine J_i2l dL_sum_82 rfl ?_
      refine J_ladd dL_sum_83 ?_
      refine J_lstore_n dL_sum_84 rfl (by decide) rfl ?_
      refine J_iconst (v := nI 0) dL_sum_85 (by decide) ?_
      refine J_istore dL_sum_86 (by decide) rfl ?_
      exact J.widen (by omega) (by omega) (loopA n b (by omega) (fun v w1 o4 => ih (b + 1) v w1 o4 (by omega)) b 0 _ _ (by omega) (by rw [hv]; rfl) kp hX)
  have kp := KP.rf w x
  refine J.widen (kb' := 325 + 2) (sb' := 6 * 325 + 12) (by omega) (by omega) ?_
  refine J_ldc2 dL_sum_0 kl_287 ?_
  refine J_aload_n dL_sum_3 rfl rfl ?_
  refine K_hV (v := sTk (gS G)) (kb := 325 + 1) (sb := 6 * (325) + 6) dL_sum_4 YX8_ticks kL_208 hX.rc (c_X8_ticks hX) rfl rfl rfl (Nat.le_of_ble_eq_true rfl) (by decide) (fun w2 k2 hX => ?_)
  have kp := kp.tr k2
  refine J_i2l dL_sum_7 rfl ?_
  refine J_lmul dL_sum_8 ?_
  refine J_aload_n dL_sum_9 rfl rfl ?_
  refine K_hV (v := sAr (gS G)) (kb := 325 + 0) (sb := 6 * (325) + 0) dL_sum_10 YX8_arrivals kL_205 hX.rc (c_X8_arrivals hX) rfl rfl rfl (Nat.le_of_ble_eq_true rfl) (by decide) (fun w3 k3 hX => ?_)
  have kp := kp.tr k3
  refine J_i2l dL_sum_13 rfl ?_
  refine J_ladd dL_sum_14 ?_
  refine J_lstore_n dL_sum_15 rfl (by decide) rfl ?_
  refine J_iconst (v := nI 0) dL_sum_16 (by decide) ?_
  refine J_istore_n dL_sum_17 rfl (by decide) rfl ?_
  exact J.widen (by omega) (by omega) (loopB (sNb (gS G)) 0 _ _ none (by omega) rfl kp hX)

end JSUM

/-! THE LAW: isWhole -/
section JWHL
theorem dcmp_sf {x : UInt64} (h : vf_n64 x) : Op.cmpValue (FP.dcmp x x) .l = 0 := by
  have h1 : x.toNat % 2 ^ 63 ≤ 9218868437227405312 := by
    unfold vf_n64 at h
    rw [UInt64.le_iff_toNat_le, UInt64.toNat_and] at h
    have e : (0x7fffffffffffffff : UInt64).toNat = 2 ^ 63 - 1 := by decide
    rw [e, Nat.and_two_pow_sub_one_eq_mod] at h
    exact h
  have h2 : FP.Core.dcmp x x = some .eq := FP.Core.dcmp_self ((FP.Core.ne_nan _).mpr h1)
  show Op.cmpValue (FP.Core.dcmp x x) .l = 0
  rw [h2]
  rfl
theorem fcmp_sf {x : UInt32} (h : vf_n32 x) : Op.cmpValue (FP.fcmp x x) .l = 0 := by
  have h1 : x.toNat % 2 ^ 31 ≤ 2139095040 := by
    unfold vf_n32 at h
    rw [UInt32.le_iff_toNat_le, UInt32.toNat_and] at h
    have e : (0x7fffffff : UInt32).toNat = 2 ^ 31 - 1 := by decide
    rw [e, Nat.and_two_pow_sub_one_eq_mod] at h
    exact h
  have h2 : FP.Core.fcmp x x = some .eq := FP.Core.fcmp_self ((FP.Core.ne_nan32 _).mpr h1)
  show Op.cmpValue (FP.Core.fcmp x x) .l = 0
  rw [h2]
  rfl
def dm74 : UInt64 := 13858279740860792832
def fm74 : UInt32 := 3264479232
theorem dm74_n : vf_n64 dm74 := by unfold vf_n64 dm74; decide
theorem fm74_n : vf_n32 fm74 := by unfold vf_n32 fm74; decide
theorem kd_139 : Cond.constantDouble RL 139 dm74 ∈ AL := AL_in (T6 (List.mem_of_getElem? (i := 34) rfl)) rfl
theorem kf_145 : Cond.constantFloat RL 145 fm74 ∈ AL := AL_in (T6 (List.mem_of_getElem? (i := 43) rfl)) rfl
theorem K_sch {d : Nat} {mi : MI} {pc : Nat} {lc : List (Option Value)} {st : List Value} {w : Wd} {kb sb : Nat} {Q : Po} {idx n d' kb' sb' : Nat} {y : MI} {As st0 : List Value} {QY : Option Value → Wd → Prop} (hd : decode mi.2.1 pc = .ok (.invokestatic idx, 3)) (hh : headC y = .codeWith y.1 y.2.1 y.2.2.1 y.2.2.2.1 y.2.2.2.2) (hY : headC y ∈ AL ∧ Cond.initialized y.1.cls ∈ AL ∧ (y.1.cls ≠ "java/lang/invoke/MethodHandle" ∧ y.1.cls ≠ "java/lang/invoke/VarHandle" ∧ (parseMethodDescriptor y.1.desc).map (fun d => d.parameters.length) = some n) ∧ y.2.2.1 ≤ 40) (hL : Cond.methodLink mi.1.cls idx y.1 ∈ AL ∧ Cond.static y.1 ∈ AL)
    (hM : MC d' y kb' sb' As w (RP QY)) (hn : As.length = n) (hst : st0 = As.reverse ++ st) (hcat : (st.map fun v => v.category).sum ≤ 8) (hdd : d' + 1 ≤ d)
    (kk : ∀ (r : Option Value) (w' : Wd), QY r w' → J d mi (pc + 3) lc (r.toList ++ st) w' kb sb Q) : J d mi pc lc st0 w (kb + kb') (sb + sb') Q :=
  J_callSH hd hh hY hL hM hn hst hcat hdd (fun r w' q => by
    obtain ⟨r', e, q⟩ := q
    cases e
    exact kk _ _ q) (fun E w' q => absurd q (RP_no E w'))
theorem c_L_meanWaits {w : Wd} {x : Nat} {G : Gme} (hX : RepX w x G) : MC 7 mL_meanWaits 1 6 [.ref x] w (RP (fun r w' => r = some (.double (if sNt (gS G) = 0 then dm74 else gMean (gS G))) ∧ KP w w' x ∧ RepX w' x G)) := by
  refine MC_ofH pnL rfl (fun v hv => by simp only [List.mem_cons, List.not_mem_nil, or_false] at hv; rcases hv with rfl; rfl) (Nat.le_of_ble_eq_true rfl) (fun E w h => RP_no E w h) ?_
  show J 7 mL_meanWaits 0 [some (.ref x), none] [] w 1 6 _
  refine J_aload_n dL_meanWaits_0 rfl rfl ?_
  refine J_callV (mi := mL_meanWaits) (pc := 1) (kb := 0) (sb := 0) dL_meanWaits_1 YX8_meanWaits kL_133 hX.rc (c_X8_meanWaits hX) rfl rfl (Nat.le_of_ble_eq_true rfl) (by decide) (fun v w1 q => ?_) (fun E w1 q => ?_)
  · obtain ⟨hF, hX1, ⟨e, z⟩ | ⟨e, z⟩⟩ := q
    · cases z
    · cases z
      exact J_dreturn dL_meanWaits_4 rfl (RP_i ⟨by rw [if_neg e], KP.fr hF, hX1⟩)
  · obtain ⟨hF, hX1, ⟨e, z⟩ | ⟨e, z⟩⟩ := q
    · cases z
      refine JX_catch (i := 1) (pre := []) (x := ⟨0, 4, 5, 137⟩) (suf := []) rfl (fun y hy => by cases hy) rfl (by decide) clL_137 (OL_in (T6 (List.mem_of_getElem? (i := 21) rfl)) rfl) (Or.inl ⟨dL_meanWaits_5, rfl, 1, rfl, ?_⟩) (by decide) rfl
      refine J_ldc2d dL_meanWaits_6 kd_139 ?_
      exact J_dreturn dL_meanWaits_9 rfl (RP_i ⟨by rw [if_pos e], KP.fr hF, hX1⟩)
    · cases z
theorem c_L_occupiedFraction {w : Wd} {x : Nat} {G : Gme} (hX : RepX w x G) : MC 7 mL_occupiedFraction 1 6 [.ref x] w (RP (fun r w' => r = some (.float (if sNb (gS G) = 0 then fm74 else gOcc (gS G))) ∧ KP w w' x ∧ RepX w' x G)) := by
  refine MC_ofH pnL rfl (fun v hv => by simp only [List.mem_cons, List.not_mem_nil, or_false] at hv; rcases hv with rfl; rfl) (Nat.le_of_ble_eq_true rfl) (fun E w h => RP_no E w h) ?_
  show J 7 mL_occupiedFraction 0 [some (.ref x), none] [] w 1 6 _
  refine J_aload_n dL_occupiedFraction_0 rfl rfl ?_
  refine J_callV (mi := mL_occupiedFraction) (pc := 1) (kb := 0) (sb := 0) dL_occupiedFraction_1 YX8_occupiedFraction kL_141 hX.rc (c_X8_occupiedFraction hX) rfl rfl (Nat.le_of_ble_eq_true rfl) (by decide) (fun v w1 q => ?_) (fun E w1 q => ?_)
  · obtain ⟨hF, hX1, ⟨e, z⟩ | ⟨e, z⟩⟩ := q
    · cases z
    · cases z
      exact J_freturn dL_occupiedFraction_4 rfl (RP_i ⟨by rw [if_neg e], KP.fr hF, hX1⟩)
  · obtain ⟨hF, hX1, ⟨e, z⟩ | ⟨e, z⟩⟩ := q
    · cases z
      refine JX_catch (i := 1) (pre := []) (x := ⟨0, 4, 5, 137⟩) (suf := []) rfl (fun y hy => by cases hy) rfl (by decide) clL_137 (OL_in (T6 (List.mem_of_getElem? (i := 21) rfl)) rfl) (Or.inl ⟨dL_occupiedFraction_5, rfl, 1, rfl, ?_⟩) (by decide) rfl
      refine J_ldcf dL_occupiedFraction_6 kf_145 ?_
      exact J_freturn dL_occupiedFraction_8 rfl (RP_i ⟨by rw [if_pos e], KP.fr hF, hX1⟩)
    · cases z
/-- the row held: how many of the first b blocks each train holds -/
def HM (w : Wd) (r : Nat) (S : St) (b : Nat) : Prop := ∃ f : Nat → Int32, w.1 r = .inl (0, 7, .inl f) ∧ ∀ u, u < 7 → f u = nI (cnt b (fun c => hOf S c == some u))
theorem HM.kp {w w' : Wd} {r x b : Nat} {S : St} (h : HM w r S b) (k : KP w w' x) (hr : x + 126 ≤ r) : HM w' r S b := by
  obtain ⟨f, h1, h2⟩ := h
  exact ⟨f, k.at h1 (Or.inr hr) nd_l, h2⟩
theorem cnt_s (n : Nat) (p : Nat → Bool) : cnt (n + 1) p = cnt n p + (if p n = true then 1 else 0) := rfl
theorem HM.same {w : Wd} {r b : Nat} {S : St} (h : HM w r S b) (hn : hOf S b = none) : HM w r S (b + 1) := by
  obtain ⟨f, h1, h2⟩ := h
  refine ⟨f, h1, fun u hu => ?_⟩
  rw [h2 u hu, cnt_s, hn]
  rfl
theorem hOf_un {S : St} (h : WF S) {b u : Nat} (hb : hOf S b = some u) : cnt b (fun c => hOf S c == some u) = 0 := cnt_0 fun c hc => by
  cases q : hOf S c == some u with
  | false => rfl
  | true =>
    have e : hOf S c = some u := by simpa using q
    obtain ⟨h1, h2⟩ := hOf_some hb
    obtain ⟨-, h4⟩ := hOf_some e
    rw [h2] at h4
    cases h4
    omega
set_option maxRecDepth 100000 in
/-- the blocks -/
theorem iw_1 {w : Wd} {x r k K : Nat} {G : Gme} {al : Bool} (hg : WG (gS G) K) (hr : x + 126 ≤ r) (hlo : ∀ b, w.1 b ≠ dead → b < r) (B : Nat) (k2 : ∀ w1 o8 o9 o10 o11, KP w w1 x → RepX w1 x G → J 51 mL_isWhole 185 [some (.ref x), some (.ref 3), some (.int (nI k)), some (.int (b2i al)), some (.int (nI (sNt (gS G)))), some (.int (nI (sNb (gS G)))), some (.int (nI (sNt (gS G)))), some (.ref r), o8, o9, o10, o11, none, none] [] w1 (B) (6 * (B)) (YQ w x G)) :
    ∀ m b w1 o9 o10 o11, b + m = sNb (gS G) → KP w w1 x → RepX w1 x G → HM w1 r (gS G) b → J 51 mL_isWhole 24 [some (.ref x), some (.ref 3), some (.int (nI k)), some (.int (b2i al)), some (.int (nI (sNt (gS G)))), some (.int (nI (sNb (gS G)))), some (.int (nI (cnt b (fun c => (tAt (gS G) c).isSome)))), some (.ref r), some (.int (nI b)), o9, o10, o11, none, none] [] w1 (7 * m + B) (6 * (7 * m + B)) (YQ w x G) := by
  have hW := hg.1
  have hnb := hW.nb
  have hnt := hW.nt
  intro m
  induction m with
  | zero =>
    intro b w1 o9 o10 o11 hb kp hX hM
    have e : b = sNb (gS G) := by omega
    subst e
    refine J_iload dL_isWhole_24 rfl ?_
    refine J_iload dL_isWhole_26 rfl ?_
    refine J_icmp_ge (tgt := 185) dL_isWhole_28 (by decide) (fun h28 => ?_) (fun h => absurd ((nI_leI (by omega) (by omega)).mpr (by omega)) h)
    have k := k2 w1 (some (.int (nI (sNb (gS G))))) o9 o10 o11 kp hX
    rw [← cnt_in hW] at k
    rw [cnt_in hW] at k ⊢
    exact J.widen (by omega) (by omega) k
  | succ m ih =>
    intro b w1 o9 o10 o11 hb kp hX hM
    refine J.widen (kb' := (7 * m + B) + 7) (sb' := 6 * (7 * m + B) + 42) (by omega) (by omega) ?_
    have hcatN : sCa (gS G) b = true → tAt (gS G) b = none := fun hc => by
      cases ht : tAt (gS G) b with
      | none => rfl
      | some t =>
        obtain ⟨h1, h2⟩ := tAt_some ht
        have := hg.2.1 t h1
        rw [h2, hc] at this
        cases this
    cases hc : sCa (gS G) b with
    | true =>
      have ht := hcatN hc
      cases hh : hOf (gS G) b with
      | none =>
        refine J_iload dL_isWhole_24 rfl ?_
        refine J_iload dL_isWhole_26 rfl ?_
        refine J_icmp_ge (tgt := 185) dL_isWhole_28 (by decide) (fun h => absurd ((nI_leI (by omega) (by omega)).mp h) (by omega)) (fun h28 => ?_)
        refine J_iload dL_isWhole_31 rfl ?_
        refine J_aload_n dL_isWhole_33 rfl rfl ?_
        refine J_iload dL_isWhole_34 rfl ?_
        refine K_h (v := (-75)) (kb := 7 * m + B + 6) (sb := 6 * (7 * m + B) + 36) dL_isWhole_36 rfl YL_trainIn kL_299 (h_trainIn hX (by omega)) (oV_n ht) rfl rfl (Nat.le_of_ble_eq_true rfl) (by decide) (fun w2 k2 hX => ?_)
        have kp := kp.tr k2
        have hM := hM.kp k2 hr
        refine J_if_lt (tgt := 46) dL_isWhole_39 (by decide) (fun h39 => ?_) (fun h => absurd h (by decide))
        refine J_iconst (v := nI 0) dL_isWhole_46 (by decide) ?_
        refine K_iadd (v := nI (cnt b (fun c => (tAt (gS G) c).isSome) + 0)) dL_isWhole_47 (nI_add _ _) ?_
        refine J_istore dL_isWhole_48 (by decide) rfl ?_
        refine J_aload_n dL_isWhole_50 rfl rfl ?_
        refine J_iload dL_isWhole_51 rfl ?_
        refine K_h (v := (-75)) (kb := 7 * m + B + 5) (sb := 6 * (7 * m + B) + 30) dL_isWhole_53 rfl YL_reservedBy kL_297 (h_reservedBy hX (by omega)) (oV_n hh) rfl rfl (Nat.le_of_ble_eq_true rfl) (by decide) (fun w3 k3 hX => ?_)
        have kp := kp.tr k3
        have hM := hM.kp k3 hr
        refine J_istore dL_isWhole_56 (by decide) rfl ?_
        refine J_aload_n dL_isWhole_58 rfl rfl ?_
        refine J_iload dL_isWhole_59 rfl ?_
        refine K_h (v := nI 99) (kb := 7 * m + B + 4) (sb := 6 * (7 * m + B) + 24) dL_isWhole_61 rfl YL_signal kL_295 (h_signal hX (by omega)) (congrArg nI (show sgn (gS G) b = 99 from if_pos hc)) rfl rfl (Nat.le_of_ble_eq_true rfl) (by decide) (fun w4 k4 hX => ?_)
        have kp := kp.tr k4
        have hM := hM.kp k4 hr
        refine J_istore dL_isWhole_64 (by decide) rfl ?_
        refine J_iload dL_isWhole_66 rfl ?_
        refine J_aload_n dL_isWhole_68 rfl rfl ?_
        refine J_iload dL_isWhole_69 rfl ?_
        refine K_h (v := nI 1) (kb := 7 * m + B + 3) (sb := 6 * (7 * m + B) + 18) dL_isWhole_71 rfl YL_hasCat kL_333 (h_hasCat hX (by omega)) (b2i_t hc) rfl rfl (Nat.le_of_ble_eq_true rfl) (by decide) (fun w5 k5 hX => ?_)
        have kp := kp.tr k5
        have hM := hM.kp k5 hr
        refine J_iconst (v := nI 1) dL_isWhole_74 (by decide) ?_
        refine J_icmp_ne (tgt := 83) dL_isWhole_75 (by decide) (fun h => absurd h (by decide)) (fun h75 => ?_)
        refine J_bipush (v := nI 99) dL_isWhole_78 (by decide) ?_
        refine J_goto (tgt := 109) dL_isWhole_80 (by decide) ?_
        refine J_icmp_ne (tgt := 116) dL_isWhole_109 (by decide) (fun h => absurd h (by decide)) (fun h109 => ?_)
        refine J_iconst (v := nI 1) dL_isWhole_112 (by decide) ?_
        refine J_goto (tgt := 117) dL_isWhole_113 (by decide) ?_
        refine J_istore dL_isWhole_117 (by decide) rfl ?_
        refine J_iload dL_isWhole_119 rfl ?_
        refine J_if_eq (tgt := 163) dL_isWhole_121 (by decide) (fun h => absurd h (by decide)) (fun h121 => ?_)
        refine J_iload dL_isWhole_124 rfl ?_
        refine J_if_lt (tgt := 144) dL_isWhole_126 (by decide) (fun h126 => ?_) (fun h => absurd h (by decide))
        refine J_aload_n dL_isWhole_144 rfl rfl ?_
        refine J_iload dL_isWhole_145 rfl ?_
        refine K_h (v := nI 1) (kb := 7 * m + B + 2) (sb := 6 * (7 * m + B) + 12) dL_isWhole_147 rfl YL_hasCat kL_333 (h_hasCat hX (by omega)) (b2i_t hc) rfl rfl (Nat.le_of_ble_eq_true rfl) (by decide) (fun w6 k6 hX => ?_)
        have kp := kp.tr k6
        have hM := hM.kp k6 hr
        refine J_iconst (v := nI 1) dL_isWhole_150 (by decide) ?_
        refine J_icmp_ne (tgt := 165) dL_isWhole_151 (by decide) (fun h => absurd h (by decide)) (fun h151 => ?_)
        refine J_aload_n dL_isWhole_154 rfl rfl ?_
        refine J_iload dL_isWhole_155 rfl ?_
        refine K_h (v := (-75)) (kb := 7 * m + B + 1) (sb := 6 * (7 * m + B) + 6) dL_isWhole_157 rfl YL_trainIn kL_299 (h_trainIn hX (by omega)) (oV_n ht) rfl rfl (Nat.le_of_ble_eq_true rfl) (by decide) (fun w7 k7 hX => ?_)
        have kp := kp.tr k7
        have hM := hM.kp k7 hr
        refine J_if_lt (tgt := 165) dL_isWhole_160 (by decide) (fun h160 => ?_) (fun h => absurd h (by decide))
        refine J_iload dL_isWhole_165 rfl ?_
        refine J_if_lt (tgt := 179) dL_isWhole_167 (by decide) (fun h167 => ?_) (fun h => absurd h (by decide))
        refine J_iinc (v := nI (b + 1)) dL_isWhole_179 rfl (nI_succ _).symm (by decide) rfl ?_
        refine J_goto (tgt := 24) dL_isWhole_182 (by decide) ?_
        have hM := hM.same hh
        have k := fun o9 o10 o11 => ih (b + 1) _ o9 o10 o11 (by omega) kp hX hM
        rw [show cnt (b + 1) (fun c => (tAt (gS G) c).isSome) = cnt b (fun c => (tAt (gS G) c).isSome) + 0 from by rw [cnt_s, ht]; rfl] at k
        exact J.widen (by omega) (by omega) (k _ _ _)
      | some u =>
        have hu := (hOf_some hh).1
        refine J_iload dL_isWhole_24 rfl ?_
        refine J_iload dL_isWhole_26 rfl ?_
        refine J_icmp_ge (tgt := 185) dL_isWhole_28 (by decide) (fun h => absurd ((nI_leI (by omega) (by omega)).mp h) (by omega)) (fun h28 => ?_)
        refine J_iload dL_isWhole_31 rfl ?_
        refine J_aload_n dL_isWhole_33 rfl rfl ?_
        refine J_iload dL_isWhole_34 rfl ?_
        refine K_h (v := (-75)) (kb := 7 * m + B + 6) (sb := 6 * (7 * m + B) + 36) dL_isWhole_36 rfl YL_trainIn kL_299 (h_trainIn hX (by omega)) (oV_n ht) rfl rfl (Nat.le_of_ble_eq_true rfl) (by decide) (fun w2 k2 hX => ?_)
        have kp := kp.tr k2
        have hM := hM.kp k2 hr
        refine J_if_lt (tgt := 46) dL_isWhole_39 (by decide) (fun h39 => ?_) (fun h => absurd h (by decide))
        refine J_iconst (v := nI 0) dL_isWhole_46 (by decide) ?_
        refine K_iadd (v := nI (cnt b (fun c => (tAt (gS G) c).isSome) + 0)) dL_isWhole_47 (nI_add _ _) ?_
        refine J_istore dL_isWhole_48 (by decide) rfl ?_
        refine J_aload_n dL_isWhole_50 rfl rfl ?_
        refine J_iload dL_isWhole_51 rfl ?_
        refine K_h (v := nI u) (kb := 7 * m + B + 5) (sb := 6 * (7 * m + B) + 30) dL_isWhole_53 rfl YL_reservedBy kL_297 (h_reservedBy hX (by omega)) (oV_s hh) rfl rfl (Nat.le_of_ble_eq_true rfl) (by decide) (fun w3 k3 hX => ?_)
        have kp := kp.tr k3
        have hM := hM.kp k3 hr
        refine J_istore dL_isWhole_56 (by decide) rfl ?_
        refine J_aload_n dL_isWhole_58 rfl rfl ?_
        refine J_iload dL_isWhole_59 rfl ?_
        refine K_h (v := nI 99) (kb := 7 * m + B + 4) (sb := 6 * (7 * m + B) + 24) dL_isWhole_61 rfl YL_signal kL_295 (h_signal hX (by omega)) (congrArg nI (show sgn (gS G) b = 99 from if_pos hc)) rfl rfl (Nat.le_of_ble_eq_true rfl) (by decide) (fun w4 k4 hX => ?_)
        have kp := kp.tr k4
        have hM := hM.kp k4 hr
        refine J_istore dL_isWhole_64 (by decide) rfl ?_
        refine J_iload dL_isWhole_66 rfl ?_
        refine J_aload_n dL_isWhole_68 rfl rfl ?_
        refine J_iload dL_isWhole_69 rfl ?_
        refine K_h (v := nI 1) (kb := 7 * m + B + 3) (sb := 6 * (7 * m + B) + 18) dL_isWhole_71 rfl YL_hasCat kL_333 (h_hasCat hX (by omega)) (b2i_t hc) rfl rfl (Nat.le_of_ble_eq_true rfl) (by decide) (fun w5 k5 hX => ?_)
        have kp := kp.tr k5
        have hM := hM.kp k5 hr
        refine J_iconst (v := nI 1) dL_isWhole_74 (by decide) ?_
        refine J_icmp_ne (tgt := 83) dL_isWhole_75 (by decide) (fun h => absurd h (by decide)) (fun h75 => ?_)
        refine J_bipush (v := nI 99) dL_isWhole_78 (by decide) ?_
        refine J_goto (tgt := 109) dL_isWhole_80 (by decide) ?_
        refine J_icmp_ne (tgt := 116) dL_isWhole_109 (by decide) (fun h => absurd h (by decide)) (fun h109 => ?_)
        refine J_iconst (v := nI 1) dL_isWhole_112 (by decide) ?_
        refine J_goto (tgt := 117) dL_isWhole_113 (by decide) ?_
        refine J_istore dL_isWhole_117 (by decide) rfl ?_
        refine J_iload dL_isWhole_119 rfl ?_
        refine J_if_eq (tgt := 163) dL_isWhole_121 (by decide) (fun h => absurd h (by decide)) (fun h121 => ?_)
        refine J_iload dL_isWhole_124 rfl ?_
        refine J_if_lt (tgt := 144) dL_isWhole_126 (by decide) (fun h => absurd h (nI_pos (by omega))) (fun h126 => ?_)
        refine J_iload dL_isWhole_129 rfl ?_
        refine J_iload dL_isWhole_131 rfl ?_
        refine J_icmp_ge (tgt := 163) dL_isWhole_133 (by decide) (fun h => absurd ((nI_leI (by omega) (by omega)).mp h) (by omega)) (fun h133 => ?_)
        refine J_aload dL_isWhole_136 rfl ?_
        refine J_iload dL_isWhole_138 rfl ?_
        obtain ⟨f, hf1, hf2⟩ := id hM
        refine K_iald (v := nI 0) dL_isWhole_140 hf1 (by omega) (by decide) ((hf2 u (by omega)).trans (congrArg nI (hOf_un hW hh))) ?_
        refine J_if_gt (tgt := 163) dL_isWhole_141 (by decide) (fun h => absurd h (by decide)) (fun h141 => ?_)
        refine J_aload_n dL_isWhole_144 rfl rfl ?_
        refine J_iload dL_isWhole_145 rfl ?_
        refine K_h (v := nI 1) (kb := 7 * m + B + 2) (sb := 6 * (7 * m + B) + 12) dL_isWhole_147 rfl YL_hasCat kL_333 (h_hasCat hX (by omega)) (b2i_t hc) rfl rfl (Nat.le_of_ble_eq_true rfl) (by decide) (fun w6 k6 hX => ?_)
        have kp := kp.tr k6
        have hM := hM.kp k6 hr
        refine J_iconst (v := nI 1) dL_isWhole_150 (by decide) ?_
        refine J_icmp_ne (tgt := 165) dL_isWhole_151 (by decide) (fun h => absurd h (by decide)) (fun h151 => ?_)
        refine J_aload_n dL_isWhole_154 rfl rfl ?_
        refine J_iload dL_isWhole_155 rfl ?_
        refine K_h (v := (-75)) (kb := 7 * m + B + 1) (sb := 6 * (7 * m + B) + 6) dL_isWhole_157 rfl YL_trainIn kL_299 (h_trainIn hX (by omega)) (oV_n ht) rfl rfl (Nat.le_of_ble_eq_true rfl) (by decide) (fun w7 k7 hX => ?_)
        have kp := kp.tr k7
        have hM := hM.kp k7 hr
        refine J_if_lt (tgt := 165) dL_isWhole_160 (by decide) (fun h160 => ?_) (fun h => absurd h (by decide))
        refine J_iload dL_isWhole_165 rfl ?_
        refine J_if_lt (tgt := 179) dL_isWhole_167 (by decide) (fun h => absurd h (nI_pos (by omega))) (fun h167 => ?_)
        refine J_aload dL_isWhole_170 rfl ?_
        refine J_iload dL_isWhole_172 rfl ?_
        refine J_dup2 dL_isWhole_174 rfl rfl ?_
        obtain ⟨f, hf1, hf2⟩ := id hM
        refine K_iald (v := nI 0) dL_isWhole_175 hf1 (by omega) (by decide) ((hf2 u (by omega)).trans (congrArg nI (hOf_un hW hh))) ?_
        refine J_iconst (v := nI 1) dL_isWhole_176 (by decide) ?_
        refine K_iadd (v := nI (0 + 1)) dL_isWhole_177 (nI_add _ _) ?_
        refine K_iast dL_isWhole_178 hf1 (by omega) (by decide) (fun w9 u9 => ?_)
        have kp : KP w w9 x := fun c hc1 hc2 => (u9.2.1 c (by have := hlo c hc2; omega)).trans (kp c hc1 hc2)
        have hX : RepX w9 x G := hX.kp (fun c h1 h2 => u9.2.1 c (by omega))
        have hM : HM w9 r (gS G) (b + 1) := ⟨_, u9.1, fun v hv => by
          rw [cnt_s, hh]
          by_cases e : v = u
          · subst e
            rw [up_s, hOf_un hW hh]
            simp
          · rw [up_n _ _ e, hf2 v hv]
            have : (some u == some v) = false := by
              cases q : (some u == some v) with
              | false => rfl
              | true => exact absurd (by simpa using q : u = v) (fun z => e z.symm)
            simp [this]⟩
        refine J_iinc (v := nI (b + 1)) dL_isWhole_179 rfl (nI_succ _).symm (by decide) rfl ?_
        refine J_goto (tgt := 24) dL_isWhole_182 (by decide) ?_
        have k := fun o9 o10 o11 => ih (b + 1) _ o9 o10 o11 (by omega) kp hX hM
        rw [show cnt (b + 1) (fun c => (tAt (gS G) c).isSome) = cnt b (fun c => (tAt (gS G) c).isSome) + 0 from by rw [cnt_s, ht]; rfl] at k
        exact J.widen (by omega) (by omega) (k _ _ _)
    | false =>
      cases ht : tAt (gS G) b with
      | none =>
        cases hh : hOf (gS G) b with
        | none =>
          refine J_iload dL_isWhole_24 rfl ?_
          refine J_iload dL_isWhole_26 rfl ?_
          refine J_icmp_ge (tgt := 185) dL_isWhole_28 (by decide) (fun h => absurd ((nI_leI (by omega) (by omega)).mp h) (by omega)) (fun h28 => ?_)
          refine J_iload dL_isWhole_31 rfl ?_
          refine J_aload_n dL_isWhole_33 rfl rfl ?_
          refine J_iload dL_isWhole_34 rfl ?_
          refine K_h (v := (-75)) (kb := 7 * m + B + 6) (sb := 6 * (7 * m + B) + 36) dL_isWhole_36 rfl YL_trainIn kL_299 (h_trainIn hX (by omega)) (oV_n ht) rfl rfl (Nat.le_of_ble_eq_true rfl) (by decide) (fun w2 k2 hX => ?_)
          have kp := kp.tr k2
          have hM := hM.kp k2 hr
          refine J_if_lt (tgt := 46) dL_isWhole_39 (by decide) (fun h39 => ?_) (fun h => absurd h (by decide))
          refine J_iconst (v := nI 0) dL_isWhole_46 (by decide) ?_
          refine K_iadd (v := nI (cnt b (fun c => (tAt (gS G) c).isSome) + 0)) dL_isWhole_47 (nI_add _ _) ?_
          refine J_istore dL_isWhole_48 (by decide) rfl ?_
          refine J_aload_n dL_isWhole_50 rfl rfl ?_
          refine J_iload dL_isWhole_51 rfl ?_
          refine K_h (v := (-75)) (kb := 7 * m + B + 5) (sb := 6 * (7 * m + B) + 30) dL_isWhole_53 rfl YL_reservedBy kL_297 (h_reservedBy hX (by omega)) (oV_n hh) rfl rfl (Nat.le_of_ble_eq_true rfl) (by decide) (fun w3 k3 hX => ?_)
          have kp := kp.tr k3
          have hM := hM.kp k3 hr
          refine J_istore dL_isWhole_56 (by decide) rfl ?_
          refine J_aload_n dL_isWhole_58 rfl rfl ?_
          refine J_iload dL_isWhole_59 rfl ?_
          refine K_h (v := nI 102) (kb := 7 * m + B + 4) (sb := 6 * (7 * m + B) + 24) dL_isWhole_61 rfl YL_signal kL_295 (h_signal hX (by omega)) (congrArg nI (show sgn (gS G) b = 102 from (if_neg (by rw [hc]; decide)).trans ((if_neg (by rw [ht]; decide)).trans (if_neg (by rw [hh]; decide))))) rfl rfl (Nat.le_of_ble_eq_true rfl) (by decide) (fun w4 k4 hX => ?_)
          have kp := kp.tr k4
          have hM := hM.kp k4 hr
          refine J_istore dL_isWhole_64 (by decide) rfl ?_
          refine J_iload dL_isWhole_66 rfl ?_
          refine J_aload_n dL_isWhole_68 rfl rfl ?_
          refine J_iload dL_isWhole_69 rfl ?_
          refine K_h (v := nI 0) (kb := 7 * m + B + 3) (sb := 6 * (7 * m + B) + 18) dL_isWhole_71 rfl YL_hasCat kL_333 (h_hasCat hX (by omega)) (b2i_f hc) rfl rfl (Nat.le_of_ble_eq_true rfl) (by decide) (fun w5 k5 hX => ?_)
          have kp := kp.tr k5
          have hM := hM.kp k5 hr
          refine J_iconst (v := nI 1) dL_isWhole_74 (by decide) ?_
          refine J_icmp_ne (tgt := 83) dL_isWhole_75 (by decide) (fun h75 => ?_) (fun h => absurd h (by decide))
          refine J_aload_n dL_isWhole_83 rfl rfl ?_
          refine J_iload dL_isWhole_84 rfl ?_
          refine K_h (v := (-75)) (kb := 7 * m + B + 2) (sb := 6 * (7 * m + B) + 12) dL_isWhole_86 rfl YL_trainIn kL_299 (h_trainIn hX (by omega)) (oV_n ht) rfl rfl (Nat.le_of_ble_eq_true rfl) (by decide) (fun w6 k6 hX => ?_)
          have kp := kp.tr k6
          have hM := hM.kp k6 hr
          refine J_if_lt (tgt := 97) dL_isWhole_89 (by decide) (fun h89 => ?_) (fun h => absurd h (by decide))
          refine J_iload dL_isWhole_97 rfl ?_
          refine J_if_lt (tgt := 107) dL_isWhole_99 (by decide) (fun h99 => ?_) (fun h => absurd h (by decide))
          refine J_bipush (v := nI 102) dL_isWhole_107 (by decide) ?_
          refine J_icmp_ne (tgt := 116) dL_isWhole_109 (by decide) (fun h => absurd h (by decide)) (fun h109 => ?_)
          refine J_iconst (v := nI 1) dL_isWhole_112 (by decide) ?_
          refine J_goto (tgt := 117) dL_isWhole_113 (by decide) ?_
          refine J_istore dL_isWhole_117 (by decide) rfl ?_
          refine J_iload dL_isWhole_119 rfl ?_
          refine J_if_eq (tgt := 163) dL_isWhole_121 (by decide) (fun h => absurd h (by decide)) (fun h121 => ?_)
          refine J_iload dL_isWhole_124 rfl ?_
          refine J_if_lt (tgt := 144) dL_isWhole_126 (by decide) (fun h126 => ?_) (fun h => absurd h (by decide))
          refine J_aload_n dL_isWhole_144 rfl rfl ?_
          refine J_iload dL_isWhole_145 rfl ?_
          refine K_h (v := nI 0) (kb := 7 * m + B + 1) (sb := 6 * (7 * m + B) + 6) dL_isWhole_147 rfl YL_hasCat kL_333 (h_hasCat hX (by omega)) (b2i_f hc) rfl rfl (Nat.le_of_ble_eq_true rfl) (by decide) (fun w7 k7 hX => ?_)
          have kp := kp.tr k7
          have hM := hM.kp k7 hr
          refine J_iconst (v := nI 1) dL_isWhole_150 (by decide) ?_
          refine J_icmp_ne (tgt := 165) dL_isWhole_151 (by decide) (fun h151 => ?_) (fun h => absurd h (by decide))
          refine J_iload dL_isWhole_165 rfl ?_
          refine J_if_lt (tgt := 179) dL_isWhole_167 (by decide) (fun h167 => ?_) (fun h => absurd h (by decide))
          refine J_iinc (v := nI (b + 1)) dL_isWhole_179 rfl (nI_succ _).symm (by decide) rfl ?_
          refine J_goto (tgt := 24) dL_isWhole_182 (by decide) ?_
          have hM := hM.same hh
          have k := fun o9 o10 o11 => ih (b + 1) _ o9 o10 o11 (by omega) kp hX hM
          rw [show cnt (b + 1) (fun c => (tAt (gS G) c).isSome) = cnt b (fun c => (tAt (gS G) c).isSome) + 0 from by rw [cnt_s, ht]; rfl] at k
          exact J.widen (by omega) (by omega) (k _ _ _)
        | some u =>
          have hu := (hOf_some hh).1
          refine J_iload dL_isWhole_24 rfl ?_
          refine J_iload dL_isWhole_26 rfl ?_
          refine J_icmp_ge (tgt := 185) dL_isWhole_28 (by decide) (fun h => absurd ((nI_leI (by omega) (by omega)).mp h) (by omega)) (fun h28 => ?_)
          refine J_iload dL_isWhole_31 rfl ?_
          refine J_aload_n dL_isWhole_33 rfl rfl ?_
          refine J_iload dL_isWhole_34 rfl ?_
          refine K_h (v := (-75)) (kb := 7 * m + B + 6) (sb := 6 * (7 * m + B) + 36) dL_isWhole_36 rfl YL_trainIn kL_299 (h_trainIn hX (by omega)) (oV_n ht) rfl rfl (Nat.le_of_ble_eq_true rfl) (by decide) (fun w2 k2 hX => ?_)
          have kp := kp.tr k2
          have hM := hM.kp k2 hr
          refine J_if_lt (tgt := 46) dL_isWhole_39 (by decide) (fun h39 => ?_) (fun h => absurd h (by decide))
          refine J_iconst (v := nI 0) dL_isWhole_46 (by decide) ?_
          refine K_iadd (v := nI (cnt b (fun c => (tAt (gS G) c).isSome) + 0)) dL_isWhole_47 (nI_add _ _) ?_
          refine J_istore dL_isWhole_48 (by decide) rfl ?_
          refine J_aload_n dL_isWhole_50 rfl rfl ?_
          refine J_iload dL_isWhole_51 rfl ?_
          refine K_h (v := nI u) (kb := 7 * m + B + 5) (sb := 6 * (7 * m + B) + 30) dL_isWhole_53 rfl YL_reservedBy kL_297 (h_reservedBy hX (by omega)) (oV_s hh) rfl rfl (Nat.le_of_ble_eq_true rfl) (by decide) (fun w3 k3 hX => ?_)
          have kp := kp.tr k3
          have hM := hM.kp k3 hr
          refine J_istore dL_isWhole_56 (by decide) rfl ?_
          refine J_aload_n dL_isWhole_58 rfl rfl ?_
          refine J_iload dL_isWhole_59 rfl ?_
          refine K_h (v := nI 114) (kb := 7 * m + B + 4) (sb := 6 * (7 * m + B) + 24) dL_isWhole_61 rfl YL_signal kL_295 (h_signal hX (by omega)) (congrArg nI (show sgn (gS G) b = 114 from (if_neg (by rw [hc]; decide)).trans ((if_neg (by rw [ht]; decide)).trans (if_pos (by rw [hh]; rfl))))) rfl rfl (Nat.le_of_ble_eq_true rfl) (by decide) (fun w4 k4 hX => ?_)
          have kp := kp.tr k4
          have hM := hM.kp k4 hr
          refine J_istore dL_isWhole_64 (by decide) rfl ?_
          refine J_iload dL_isWhole_66 rfl ?_
          refine J_aload_n dL_isWhole_68 rfl rfl ?_
          refine J_iload dL_isWhole_69 rfl ?_
          refine K_h (v := nI 0) (kb := 7 * m + B + 3) (sb := 6 * (7 * m + B) + 18) dL_isWhole_71 rfl YL_hasCat kL_333 (h_hasCat hX (by omega)) (b2i_f hc) rfl rfl (Nat.le_of_ble_eq_true rfl) (by decide) (fun w5 k5 hX => ?_)
          have kp := kp.tr k5
          have hM := hM.kp k5 hr
          refine J_iconst (v := nI 1) dL_isWhole_74 (by decide) ?_
          refine J_icmp_ne (tgt := 83) dL_isWhole_75 (by decide) (fun h75 => ?_) (fun h => absurd h (by decide))
          refine J_aload_n dL_isWhole_83 rfl rfl ?_
          refine J_iload dL_isWhole_84 rfl ?_
          refine K_h (v := (-75)) (kb := 7 * m + B + 2) (sb := 6 * (7 * m + B) + 12) dL_isWhole_86 rfl YL_trainIn kL_299 (h_trainIn hX (by omega)) (oV_n ht) rfl rfl (Nat.le_of_ble_eq_true rfl) (by decide) (fun w6 k6 hX => ?_)
          have kp := kp.tr k6
          have hM := hM.kp k6 hr
          refine J_if_lt (tgt := 97) dL_isWhole_89 (by decide) (fun h89 => ?_) (fun h => absurd h (by decide))
          refine J_iload dL_isWhole_97 rfl ?_
          refine J_if_lt (tgt := 107) dL_isWhole_99 (by decide) (fun h => absurd h (nI_pos (by omega))) (fun h99 => ?_)
          refine J_bipush (v := nI 114) dL_isWhole_102 (by decide) ?_
          refine J_goto (tgt := 109) dL_isWhole_104 (by decide) ?_
          refine J_icmp_ne (tgt := 116) dL_isWhole_109 (by decide) (fun h => absurd h (by decide)) (fun h109 => ?_)
          refine J_iconst (v := nI 1) dL_isWhole_112 (by decide) ?_
          refine J_goto (tgt := 117) dL_isWhole_113 (by decide) ?_
          refine J_istore dL_isWhole_117 (by decide) rfl ?_
          refine J_iload dL_isWhole_119 rfl ?_
          refine J_if_eq (tgt := 163) dL_isWhole_121 (by decide) (fun h => absurd h (by decide)) (fun h121 => ?_)
          refine J_iload dL_isWhole_124 rfl ?_
          refine J_if_lt (tgt := 144) dL_isWhole_126 (by decide) (fun h => absurd h (nI_pos (by omega))) (fun h126 => ?_)
          refine J_iload dL_isWhole_129 rfl ?_
          refine J_iload dL_isWhole_131 rfl ?_
          refine J_icmp_ge (tgt := 163) dL_isWhole_133 (by decide) (fun h => absurd ((nI_leI (by omega) (by omega)).mp h) (by omega)) (fun h133 => ?_)
          refine J_aload dL_isWhole_136 rfl ?_
          refine J_iload dL_isWhole_138 rfl ?_
          obtain ⟨f, hf1, hf2⟩ := id hM
          refine K_iald (v := nI 0) dL_isWhole_140 hf1 (by omega) (by decide) ((hf2 u (by omega)).trans (congrArg nI (hOf_un hW hh))) ?_
          refine J_if_gt (tgt := 163) dL_isWhole_141 (by decide) (fun h => absurd h (by decide)) (fun h141 => ?_)
          refine J_aload_n dL_isWhole_144 rfl rfl ?_
          refine J_iload dL_isWhole_145 rfl ?_
          refine K_h (v := nI 0) (kb := 7 * m + B + 1) (sb := 6 * (7 * m + B) + 6) dL_isWhole_147 rfl YL_hasCat kL_333 (h_hasCat hX (by omega)) (b2i_f hc) rfl rfl (Nat.le_of_ble_eq_true rfl) (by decide) (fun w7 k7 hX => ?_)
          have kp := kp.tr k7
          have hM := hM.kp k7 hr
          refine J_iconst (v := nI 1) dL_isWhole_150 (by decide) ?_
          refine J_icmp_ne (tgt := 165) dL_isWhole_151 (by decide) (fun h151 => ?_) (fun h => absurd h (by decide))
          refine J_iload dL_isWhole_165 rfl ?_
          refine J_if_lt (tgt := 179) dL_isWhole_167 (by decide) (fun h => absurd h (nI_pos (by omega))) (fun h167 => ?_)
          refine J_aload dL_isWhole_170 rfl ?_
          refine J_iload dL_isWhole_172 rfl ?_
          refine J_dup2 dL_isWhole_174 rfl rfl ?_
          obtain ⟨f, hf1, hf2⟩ := id hM
          refine K_iald (v := nI 0) dL_isWhole_175 hf1 (by omega) (by decide) ((hf2 u (by omega)).trans (congrArg nI (hOf_un hW hh))) ?_
          refine J_iconst (v := nI 1) dL_isWhole_176 (by decide) ?_
          refine K_iadd (v := nI (0 + 1)) dL_isWhole_177 (nI_add _ _) ?_
          refine K_iast dL_isWhole_178 hf1 (by omega) (by decide) (fun w9 u9 => ?_)
          have kp : KP w w9 x := fun c hc1 hc2 => (u9.2.1 c (by have := hlo c hc2; omega)).trans (kp c hc1 hc2)
          have hX : RepX w9 x G := hX.kp (fun c h1 h2 => u9.2.1 c (by omega))
          have hM : HM w9 r (gS G) (b + 1) := ⟨_, u9.1, fun v hv => by
            rw [cnt_s, hh]
            by_cases e : v = u
            · subst e
              rw [up_s, hOf_un hW hh]
              simp
            · rw [up_n _ _ e, hf2 v hv]
              have : (some u == some v) = false := by
                cases q : (some u == some v) with
                | false => rfl
                | true => exact absurd (by simpa using q : u = v) (fun z => e z.symm)
              simp [this]⟩
          refine J_iinc (v := nI (b + 1)) dL_isWhole_179 rfl (nI_succ _).symm (by decide) rfl ?_
          refine J_goto (tgt := 24) dL_isWhole_182 (by decide) ?_
          have k := fun o9 o10 o11 => ih (b + 1) _ o9 o10 o11 (by omega) kp hX hM
          rw [show cnt (b + 1) (fun c => (tAt (gS G) c).isSome) = cnt b (fun c => (tAt (gS G) c).isSome) + 0 from by rw [cnt_s, ht]; rfl] at k
          exact J.widen (by omega) (by omega) (k _ _ _)
      | some t =>
        have ht1 := (tAt_some ht).1
        cases hh : hOf (gS G) b with
        | none =>
          refine J_iload dL_isWhole_24 rfl ?_
          refine J_iload dL_isWhole_26 rfl ?_
          refine J_icmp_ge (tgt := 185) dL_isWhole_28 (by decide) (fun h => absurd ((nI_leI (by omega) (by omega)).mp h) (by omega)) (fun h28 => ?_)
          refine J_iload dL_isWhole_31 rfl ?_
          refine J_aload_n dL_isWhole_33 rfl rfl ?_
          refine J_iload dL_isWhole_34 rfl ?_
          refine K_h (v := nI t) (kb := 7 * m + B + 6) (sb := 6 * (7 * m + B) + 36) dL_isWhole_36 rfl YL_trainIn kL_299 (h_trainIn hX (by omega)) (oV_s ht) rfl rfl (Nat.le_of_ble_eq_true rfl) (by decide) (fun w2 k2 hX => ?_)
          have kp := kp.tr k2
          have hM := hM.kp k2 hr
          refine J_if_lt (tgt := 46) dL_isWhole_39 (by decide) (fun h => absurd h (nI_pos (by omega))) (fun h39 => ?_)
          refine J_iconst (v := nI 1) dL_isWhole_42 (by decide) ?_
          refine J_goto (tgt := 47) dL_isWhole_43 (by decide) ?_
          refine K_iadd (v := nI (cnt b (fun c => (tAt (gS G) c).isSome) + 1)) dL_isWhole_47 (nI_add _ _) ?_
          refine J_istore dL_isWhole_48 (by decide) rfl ?_
          refine J_aload_n dL_isWhole_50 rfl rfl ?_
          refine J_iload dL_isWhole_51 rfl ?_
          refine K_h (v := (-75)) (kb := 7 * m + B + 5) (sb := 6 * (7 * m + B) + 30) dL_isWhole_53 rfl YL_reservedBy kL_297 (h_reservedBy hX (by omega)) (oV_n hh) rfl rfl (Nat.le_of_ble_eq_true rfl) (by decide) (fun w3 k3 hX => ?_)
          have kp := kp.tr k3
          have hM := hM.kp k3 hr
          refine J_istore dL_isWhole_56 (by decide) rfl ?_
          refine J_aload_n dL_isWhole_58 rfl rfl ?_
          refine J_iload dL_isWhole_59 rfl ?_
          refine K_h (v := nI 111) (kb := 7 * m + B + 4) (sb := 6 * (7 * m + B) + 24) dL_isWhole_61 rfl YL_signal kL_295 (h_signal hX (by omega)) (congrArg nI (show sgn (gS G) b = 111 from (if_neg (by rw [hc]; decide)).trans (if_pos (by rw [ht]; rfl)))) rfl rfl (Nat.le_of_ble_eq_true rfl) (by decide) (fun w4 k4 hX => ?_)
          have kp := kp.tr k4
          have hM := hM.kp k4 hr
          refine J_istore dL_isWhole_64 (by decide) rfl ?_
          refine J_iload dL_isWhole_66 rfl ?_
          refine J_aload_n dL_isWhole_68 rfl rfl ?_
          refine J_iload dL_isWhole_69 rfl ?_
          refine K_h (v := nI 0) (kb := 7 * m + B + 3) (sb := 6 * (7 * m + B) + 18) dL_isWhole_71 rfl YL_hasCat kL_333 (h_hasCat hX (by omega)) (b2i_f hc) rfl rfl (Nat.le_of_ble_eq_true rfl) (by decide) (fun w5 k5 hX => ?_)
          have kp := kp.tr k5
          have hM := hM.kp k5 hr
          refine J_iconst (v := nI 1) dL_isWhole_74 (by decide) ?_
          refine J_icmp_ne (tgt := 83) dL_isWhole_75 (by decide) (fun h75 => ?_) (fun h => absurd h (by decide))
          refine J_aload_n dL_isWhole_83 rfl rfl ?_
          refine J_iload dL_isWhole_84 rfl ?_
          refine K_h (v := nI t) (kb := 7 * m + B + 2) (sb := 6 * (7 * m + B) + 12) dL_isWhole_86 rfl YL_trainIn kL_299 (h_trainIn hX (by omega)) (oV_s ht) rfl rfl (Nat.le_of_ble_eq_true rfl) (by decide) (fun w6 k6 hX => ?_)
          have kp := kp.tr k6
          have hM := hM.kp k6 hr
          refine J_if_lt (tgt := 97) dL_isWhole_89 (by decide) (fun h => absurd h (nI_pos (by omega))) (fun h89 => ?_)
          refine J_bipush (v := nI 111) dL_isWhole_92 (by decide) ?_
          refine J_goto (tgt := 109) dL_isWhole_94 (by decide) ?_
          refine J_icmp_ne (tgt := 116) dL_isWhole_109 (by decide) (fun h => absurd h (by decide)) (fun h109 => ?_)
          refine J_iconst (v := nI 1) dL_isWhole_112 (by decide) ?_
          refine J_goto (tgt := 117) dL_isWhole_113 (by decide) ?_
          refine J_istore dL_isWhole_117 (by decide) rfl ?_
          refine J_iload dL_isWhole_119 rfl ?_
          refine J_if_eq (tgt := 163) dL_isWhole_121 (by decide) (fun h => absurd h (by decide)) (fun h121 => ?_)
          refine J_iload dL_isWhole_124 rfl ?_
          refine J_if_lt (tgt := 144) dL_isWhole_126 (by decide) (fun h126 => ?_) (fun h => absurd h (by decide))
          refine J_aload_n dL_isWhole_144 rfl rfl ?_
          refine J_iload dL_isWhole_145 rfl ?_
          refine K_h (v := nI 0) (kb := 7 * m + B + 1) (sb := 6 * (7 * m + B) + 6) dL_isWhole_147 rfl YL_hasCat kL_333 (h_hasCat hX (by omega)) (b2i_f hc) rfl rfl (Nat.le_of_ble_eq_true rfl) (by decide) (fun w7 k7 hX => ?_)
          have kp := kp.tr k7
          have hM := hM.kp k7 hr
          refine J_iconst (v := nI 1) dL_isWhole_150 (by decide) ?_
          refine J_icmp_ne (tgt := 165) dL_isWhole_151 (by decide) (fun h151 => ?_) (fun h => absurd h (by decide))
          refine J_iload dL_isWhole_165 rfl ?_
          refine J_if_lt (tgt := 179) dL_isWhole_167 (by decide) (fun h167 => ?_) (fun h => absurd h (by decide))
          refine J_iinc (v := nI (b + 1)) dL_isWhole_179 rfl (nI_succ _).symm (by decide) rfl ?_
          refine J_goto (tgt := 24) dL_isWhole_182 (by decide) ?_
          have hM := hM.same hh
          have k := fun o9 o10 o11 => ih (b + 1) _ o9 o10 o11 (by omega) kp hX hM
          rw [show cnt (b + 1) (fun c => (tAt (gS G) c).isSome) = cnt b (fun c => (tAt (gS G) c).isSome) + 1 from by rw [cnt_s, ht]; rfl] at k
          exact J.widen (by omega) (by omega) (k _ _ _)
        | some u =>
          have hu := (hOf_some hh).1
          refine J_iload dL_isWhole_24 rfl ?_
          refine J_iload dL_isWhole_26 rfl ?_
          refine J_icmp_ge (tgt := 185) dL_isWhole_28 (by decide) (fun h => absurd ((nI_leI (by omega) (by omega)).mp h) (by omega)) (fun h28 => ?_)
          refine J_iload dL_isWhole_31 rfl ?_
          refine J_aload_n dL_isWhole_33 rfl rfl ?_
          refine J_iload dL_isWhole_34 rfl ?_
          refine K_h (v := nI t) (kb := 7 * m + B + 6) (sb := 6 * (7 * m + B) + 36) dL_isWhole_36 rfl YL_trainIn kL_299 (h_trainIn hX (by omega)) (oV_s ht) rfl rfl (Nat.le_of_ble_eq_true rfl) (by decide) (fun w2 k2 hX => ?_)
          have kp := kp.tr k2
          have hM := hM.kp k2 hr
          refine J_if_lt (tgt := 46) dL_isWhole_39 (by decide) (fun h => absurd h (nI_pos (by omega))) (fun h39 => ?_)
          refine J_iconst (v := nI 1) dL_isWhole_42 (by decide) ?_
          refine J_goto (tgt := 47) dL_isWhole_43 (by decide) ?_
          refine K_iadd (v := nI (cnt b (fun c => (tAt (gS G) c).isSome) + 1)) dL_isWhole_47 (nI_add _ _) ?_
          refine J_istore dL_isWhole_48 (by decide) rfl ?_
          refine J_aload_n dL_isWhole_50 rfl rfl ?_
          refine J_iload dL_isWhole_51 rfl ?_
          refine K_h (v := nI u) (kb := 7 * m + B + 5) (sb := 6 * (7 * m + B) + 30) dL_isWhole_53 rfl YL_reservedBy kL_297 (h_reservedBy hX (by omega)) (oV_s hh) rfl rfl (Nat.le_of_ble_eq_true rfl) (by decide) (fun w3 k3 hX => ?_)
          have kp := kp.tr k3
          have hM := hM.kp k3 hr
          refine J_istore dL_isWhole_56 (by decide) rfl ?_
          refine J_aload_n dL_isWhole_58 rfl rfl ?_
          refine J_iload dL_isWhole_59 rfl ?_
          refine K_h (v := nI 111) (kb := 7 * m + B + 4) (sb := 6 * (7 * m + B) + 24) dL_isWhole_61 rfl YL_signal kL_295 (h_signal hX (by omega)) (congrArg nI (show sgn (gS G) b = 111 from (if_neg (by rw [hc]; decide)).trans (if_pos (by rw [ht]; rfl)))) rfl rfl (Nat.le_of_ble_eq_true rfl) (by decide) (fun w4 k4 hX => ?_)
          have kp := kp.tr k4
          have hM := hM.kp k4 hr
          refine J_istore dL_isWhole_64 (by decide) rfl ?_
          refine J_iload dL_isWhole_66 rfl ?_
          refine J_aload_n dL_isWhole_68 rfl rfl ?_
          refine J_iload dL_isWhole_69 rfl ?_
          refine K_h (v := nI 0) (kb := 7 * m + B + 3) (sb := 6 * (7 * m + B) + 18) dL_isWhole_71 rfl YL_hasCat kL_333 (h_hasCat hX (by omega)) (b2i_f hc) rfl rfl (Nat.le_of_ble_eq_true rfl) (by decide) (fun w5 k5 hX => ?_)
          have kp := kp.tr k5
          have hM := hM.kp k5 hr
          refine J_iconst (v := nI 1) dL_isWhole_74 (by decide) ?_
          refine J_icmp_ne (tgt := 83) dL_isWhole_75 (by decide) (fun h75 => ?_) (fun h => absurd h (by decide))
          refine J_aload_n dL_isWhole_83 rfl rfl ?_
          refine J_iload dL_isWhole_84 rfl ?_
          refine K_h (v := nI t) (kb := 7 * m + B + 2) (sb := 6 * (7 * m + B) + 12) dL_isWhole_86 rfl YL_trainIn kL_299 (h_trainIn hX (by omega)) (oV_s ht) rfl rfl (Nat.le_of_ble_eq_true rfl) (by decide) (fun w6 k6 hX => ?_)
          have kp := kp.tr k6
          have hM := hM.kp k6 hr
          refine J_if_lt (tgt := 97) dL_isWhole_89 (by decide) (fun h => absurd h (nI_pos (by omega))) (fun h89 => ?_)
          refine J_bipush (v := nI 111) dL_isWhole_92 (by decide) ?_
          refine J_goto (tgt := 109) dL_isWhole_94 (by decide) ?_
          refine J_icmp_ne (tgt := 116) dL_isWhole_109 (by decide) (fun h => absurd h (by decide)) (fun h109 => ?_)
          refine J_iconst (v := nI 1) dL_isWhole_112 (by decide) ?_
          refine J_goto (tgt := 117) dL_isWhole_113 (by decide) ?_
          refine J_istore dL_isWhole_117 (by decide) rfl ?_
          refine J_iload dL_isWhole_119 rfl ?_
          refine J_if_eq (tgt := 163) dL_isWhole_121 (by decide) (fun h => absurd h (by decide)) (fun h121 => ?_)
          refine J_iload dL_isWhole_124 rfl ?_
          refine J_if_lt (tgt := 144) dL_isWhole_126 (by decide) (fun h => absurd h (nI_pos (by omega))) (fun h126 => ?_)
          refine J_iload dL_isWhole_129 rfl ?_
          refine J_iload dL_isWhole_131 rfl ?_
          refine J_icmp_ge (tgt := 163) dL_isWhole_133 (by decide) (fun h => absurd ((nI_leI (by omega) (by omega)).mp h) (by omega)) (fun h133 => ?_)
          refine J_aload dL_isWhole_136 rfl ?_
          refine J_iload dL_isWhole_138 rfl ?_
          obtain ⟨f, hf1, hf2⟩ := id hM
          refine K_iald (v := nI 0) dL_isWhole_140 hf1 (by omega) (by decide) ((hf2 u (by omega)).trans (congrArg nI (hOf_un hW hh))) ?_
          refine J_if_gt (tgt := 163) dL_isWhole_141 (by decide) (fun h => absurd h (by decide)) (fun h141 => ?_)
          refine J_aload_n dL_isWhole_144 rfl rfl ?_
          refine J_iload dL_isWhole_145 rfl ?_
          refine K_h (v := nI 0) (kb := 7 * m + B + 1) (sb := 6 * (7 * m + B) + 6) dL_isWhole_147 rfl YL_hasCat kL_333 (h_hasCat hX (by omega)) (b2i_f hc) rfl rfl (Nat.le_of_ble_eq_true rfl) (by decide) (fun w7 k7 hX => ?_)
          have kp := kp.tr k7
          have hM := hM.kp k7 hr
          refine J_iconst (v := nI 1) dL_isWhole_150 (by decide) ?_
          refine J_icmp_ne (tgt := 165) dL_isWhole_151 (by decide) (fun h151 => ?_) (fun h => absurd h (by decide))
          refine J_iload dL_isWhole_165 rfl ?_
          refine J_if_lt (tgt := 179) dL_isWhole_167 (by decide) (fun h => absurd h (nI_pos (by omega))) (fun h167 => ?_)
          refine J_aload dL_isWhole_170 rfl ?_
          refine J_iload dL_isWhole_172 rfl ?_
          refine J_dup2 dL_isWhole_174 rfl rfl ?_
          obtain ⟨f, hf1, hf2⟩ := id hM
          refine K_iald (v := nI 0) dL_isWhole_175 hf1 (by omega) (by decide) ((hf2 u (by omega)).trans (congrArg nI (hOf_un hW hh))) ?_
          refine J_iconst (v := nI 1) dL_isWhole_176 (by decide) ?_
          refine K_iadd (v := nI (0 + 1)) dL_isWhole_177 (nI_add _ _) ?_
          refine K_iast dL_isWhole_178 hf1 (by omega) (by decide) (fun w9 u9 => ?_)
          have kp : KP w w9 x := fun c hc1 hc2 => (u9.2.1 c (by have := hlo c hc2; omega)).trans (kp c hc1 hc2)
          have hX : RepX w9 x G := hX.kp (fun c h1 h2 => u9.2.1 c (by omega))
          have hM : HM w9 r (gS G) (b + 1) := ⟨_, u9.1, fun v hv => by
            rw [cnt_s, hh]
            by_cases e : v = u
            · subst e
              rw [up_s, hOf_un hW hh]
              simp
            · rw [up_n _ _ e, hf2 v hv]
              have : (some u == some v) = false := by
                cases q : (some u == some v) with
                | false => rfl
                | true => exact absurd (by simpa using q : u = v) (fun z => e z.symm)
              simp [this]⟩
          refine J_iinc (v := nI (b + 1)) dL_isWhole_179 rfl (nI_succ _).symm (by decide) rfl ?_
          refine J_goto (tgt := 24) dL_isWhole_182 (by decide) ?_
          have k := fun o9 o10 o11 => ih (b + 1) _ o9 o10 o11 (by omega) kp hX hM
          rw [show cnt (b + 1) (fun c => (tAt (gS G) c).isSome) = cnt b (fun c => (tAt (gS G) c).isSome) + 1 from by rw [cnt_s, ht]; rfl] at k
          exact J.widen (by omega) (by omega) (k _ _ _)

/-- followed long enough, a train that blocks itself is found -/
theorem cyc_end {B : Nat → Option Nat} {n t i : Nat} (hB : ∀ t u, B t = some u → u < n) (hn : n ≤ 6) (ht : t < n) (hi : i ≤ 6) (hno : ∀ j, 1 ≤ j → j ≤ i → it B j t ≠ some t) (he : i = 6 ∨ it B (i + 1) t = none ∨ it B (i + 1) t = some t) : (it B (i + 1) t = some t) ↔ cycB B t = true := by
  constructor
  · intro h
    exact cycB_t.mpr ⟨i + 1, by omega, h⟩
  · intro hc
    rcases he with e | e | e
    · subst e
      rw [cyc_no hB ht (fun j h1 h2 => hno j h1 (by omega))] at hc
      cases hc
    · have := cyc_dead (B := B) (t := t) (k := i + 1) (fun j h1 h2 => by
        by_cases q : j = i + 1
        · rw [q, e]
          exact fun z => by cases z
        · exact hno j h1 (by omega)) e
      rw [this] at hc
      cases hc
    · exact e
set_option maxRecDepth 100000 in
/-- the trains -/
theorem iw_2 {w : Wd} {x r k K : Nat} {G : Gme} {al : Bool} (hg : WG (gS G) K) (hK : K < 2 ^ 31) (hk : k < 1000) (B : Nat) (k2 : ∀ w1 o11 o12 o13, KP w w1 x → RepX w1 x G → J 51 mL_isWhole 380 [some (.ref x), some (.ref 3), some (.int (nI k)), some (.int (b2i al)), some (.int (nI (sNt (gS G)))), some (.int (nI (sNb (gS G)))), some (.int (nI (sNt (gS G)))), some (.ref r), some (.int (sumW (sWa (gS G)) (sNt (gS G)))), some (.int (nI (stN (gS G)))), some (.int (nI (sNt (gS G)))), o11, o12, o13] [] w1 (B) (6 * (B)) (YQ w x G)) :
    ∀ m t w1 o11 o12 o13, t + m = sNt (gS G) → KP w w1 x → RepX w1 x G → J 51 mL_isWhole 194 [some (.ref x), some (.ref 3), some (.int (nI k)), some (.int (b2i al)), some (.int (nI (sNt (gS G)))), some (.int (nI (sNb (gS G)))), some (.int (nI (sNt (gS G)))), some (.ref r), some (.int (sumW (sWa (gS G)) t)), some (.int (nI (cnt t (cycB (bk (gS G)))))), some (.int (nI t)), o11, o12, o13] [] w1 (60 * m + B) (6 * (60 * m + B)) (YQ w x G) := by
  have hW := hg.1
  have hnb := hW.nb
  have hnt := hW.nt
  intro m
  induction m with
  | zero =>
    intro t w1 o11 o12 o13 ht kp hX
    have e : t = sNt (gS G) := by omega
    subst e
    refine J_iload dL_isWhole_194 rfl ?_
    refine J_iload dL_isWhole_196 rfl ?_
    refine J_icmp_ge (tgt := 380) dL_isWhole_198 (by decide) (fun h198 => ?_) (fun h => absurd ((nI_leI (by omega) (by omega)).mpr (by omega)) h)
    exact J.widen (by omega) (by omega) (k2 _ _ _ _ kp hX)
  | succ m ih =>
    intro t w1 o11 o12 o13 ht kp hX
    have htn : t < sNt (gS G) := by omega
    -- the order of the trains
    have ord : ∀ w1 (y11 : Int32) o12 o13, KP w w1 x → RepX w1 x G → J 51 mL_isWhole 302 [some (.ref x), some (.ref 3), some (.int (nI k)), some (.int (b2i al)), some (.int (nI (sNt (gS G)))), some (.int (nI (sNb (gS G)))), some (.int (nI (sNt (gS G)))), some (.ref r), some (.int (sumW (sWa (gS G)) (t + 1))), some (.int (nI (cnt (t + 1) (cycB (bk (gS G)))))), some (.int (nI t)), some (.int y11), o12, o13] [] w1 ((60 * m + B) + 6) (6 * ((60 * m + B) + 6)) (YQ w x G) := by
      intro w1 y11 o12 o13 kp hX
      refine J.widen (kb' := (60 * m + B) + 6) (sb' := 6 * (60 * m + B) + 36) (by omega) (by omega) ?_
      obtain ⟨a, ha, hal, haa⟩ := rkT_some htn
      have hpa := hW.2.2.2.2.1 a hal
      by_cases h0 : t = 0
      · subst h0
        refine J_aload_n dL_isWhole_302 rfl rfl ?_
        refine J_iload dL_isWhole_303 rfl ?_
        refine K_h (v := nI a) (kb := 60 * m + B + 5) (sb := 6 * (60 * m + B) + 30) dL_isWhole_305 rfl YL_trainByPriority kL_339 (h_trainByPriority hX (by omega)) (oV_s ha) rfl rfl (Nat.le_of_ble_eq_true rfl) (by decide) (fun w11 k11 hX => ?_)
        have kp := kp.tr k11
        refine J_istore dL_isWhole_308 (by decide) rfl ?_
        refine J_iload dL_isWhole_310 rfl ?_
        refine J_if_ne (tgt := 320) dL_isWhole_312 (by decide) (fun h => absurd h (by decide)) (fun h312 => ?_)
        refine J_iload dL_isWhole_315 rfl ?_
        refine J_goto (tgt := 328) dL_isWhole_317 (by decide) ?_
        refine J_istore dL_isWhole_328 (by decide) rfl ?_
        refine J_aload_n dL_isWhole_330 rfl rfl ?_
        refine J_iload dL_isWhole_331 rfl ?_
        refine K_h (v := nI (sPr (gS G) a)) (kb := 60 * m + B + 4) (sb := 6 * (60 * m + B) + 24) dL_isWhole_333 rfl YL_priority kL_307 (h_priority hX (by omega)) rfl rfl rfl (Nat.le_of_ble_eq_true rfl) (by decide) (fun w12 k12 hX => ?_)
        have kp := kp.tr k12
        refine J_aload_n dL_isWhole_336 rfl rfl ?_
        refine J_iload dL_isWhole_337 rfl ?_
        refine K_h (v := nI (sPr (gS G) a)) (kb := 60 * m + B + 3) (sb := 6 * (60 * m + B) + 18) dL_isWhole_339 rfl YL_priority kL_307 (h_priority hX (by omega)) rfl rfl rfl (Nat.le_of_ble_eq_true rfl) (by decide) (fun w13 k13 hX => ?_)
        have kp := kp.tr k13
        refine J_icmp_lt (tgt := 372) dL_isWhole_342 (by decide) (fun h => absurd ((nI_ltI (by omega) (by omega)).mp h) (by omega)) (fun h342 => ?_)
        refine J_iload dL_isWhole_345 rfl ?_
        refine J_if_le (tgt := 374) dL_isWhole_347 (by decide) (fun h347 => ?_) (fun h => absurd h (by decide))
        refine J_iinc (v := nI (0 + 1)) dL_isWhole_374 rfl (nI_succ _).symm (by decide) rfl ?_
        refine J_goto (tgt := 194) dL_isWhole_377 (by decide) ?_
        exact J.widen (by omega) (by omega) (ih (0 + 1) _ _ _ _ (by omega) kp hX)
      · obtain ⟨c, hc, hcl, hcc⟩ := rkT_some (S := gS G) (r := t - 1) (by omega)
        have hpc := hW.2.2.2.2.1 c hcl
        have hle : ¬ sPr (gS G) c < sPr (gS G) a := fun q => by
          have := ahd_lt hal hcl (Or.inl q)
          omega
        by_cases hpe : sPr (gS G) c = sPr (gS G) a
        · have hca : c ≤ a := Nat.le_of_not_lt (fun q => by
            have := ahd_lt hal hcl (Or.inr ⟨hpe.symm, q⟩)
            omega)
          refine J_aload_n dL_isWhole_302 rfl rfl ?_
          refine J_iload dL_isWhole_303 rfl ?_
          refine K_h (v := nI a) (kb := 60 * m + B + 5) (sb := 6 * (60 * m + B) + 30) dL_isWhole_305 rfl YL_trainByPriority kL_339 (h_trainByPriority hX (by omega)) (oV_s ha) rfl rfl (Nat.le_of_ble_eq_true rfl) (by decide) (fun w11 k11 hX => ?_)
          have kp := kp.tr k11
          refine J_istore dL_isWhole_308 (by decide) rfl ?_
          refine J_iload dL_isWhole_310 rfl ?_
          refine J_if_ne (tgt := 320) dL_isWhole_312 (by decide) (fun h312 => ?_) (fun h => absurd h (nI_ne0 (by omega) (by omega)))
          refine J_aload_n dL_isWhole_320 rfl rfl ?_
          refine J_iload dL_isWhole_321 rfl ?_
          refine J_iconst (v := nI 1) dL_isWhole_323 (by decide) ?_
          refine K_isub (v := nI (t - 1)) dL_isWhole_324 (nI_sub (by omega)) ?_
          refine K_h (v := nI c) (kb := 60 * m + B + 4) (sb := 6 * (60 * m + B) + 24) dL_isWhole_325 rfl YL_trainByPriority kL_339 (h_trainByPriority hX (by omega)) (oV_s hc) rfl rfl (Nat.le_of_ble_eq_true rfl) (by decide) (fun w12 k12 hX => ?_)
          have kp := kp.tr k12
          refine J_istore dL_isWhole_328 (by decide) rfl ?_
          refine J_aload_n dL_isWhole_330 rfl rfl ?_
          refine J_iload dL_isWhole_331 rfl ?_
          refine K_h (v := nI (sPr (gS G) c)) (kb := 60 * m + B + 3) (sb := 6 * (60 * m + B) + 18) dL_isWhole_333 rfl YL_priority kL_307 (h_priority hX (by omega)) rfl rfl rfl (Nat.le_of_ble_eq_true rfl) (by decide) (fun w13 k13 hX => ?_)
          have kp := kp.tr k13
          refine J_aload_n dL_isWhole_336 rfl rfl ?_
          refine J_iload dL_isWhole_337 rfl ?_
          refine K_h (v := nI (sPr (gS G) a)) (kb := 60 * m + B + 2) (sb := 6 * (60 * m + B) + 12) dL_isWhole_339 rfl YL_priority kL_307 (h_priority hX (by omega)) rfl rfl rfl (Nat.le_of_ble_eq_true rfl) (by decide) (fun w14 k14 hX => ?_)
          have kp := kp.tr k14
          refine J_icmp_lt (tgt := 372) dL_isWhole_342 (by decide) (fun h => absurd ((nI_ltI (by omega) (by omega)).mp h) (by omega)) (fun h342 => ?_)
          refine J_iload dL_isWhole_345 rfl ?_
          refine J_if_le (tgt := 374) dL_isWhole_347 (by decide) (fun h => absurd h (fun q => absurd ((nI_leI (b := 0) (by omega) (by omega)).mp q) (by omega))) (fun h347 => ?_)
          refine J_aload_n dL_isWhole_350 rfl rfl ?_
          refine J_iload dL_isWhole_351 rfl ?_
          refine K_h (v := nI (sPr (gS G) c)) (kb := 60 * m + B + 1) (sb := 6 * (60 * m + B) + 6) dL_isWhole_353 rfl YL_priority kL_307 (h_priority hX (by omega)) rfl rfl rfl (Nat.le_of_ble_eq_true rfl) (by decide) (fun w15 k15 hX => ?_)
          have kp := kp.tr k15
          refine J_aload_n dL_isWhole_356 rfl rfl ?_
          refine J_iload dL_isWhole_357 rfl ?_
          refine K_h (v := nI (sPr (gS G) a)) (kb := 60 * m + B + 0) (sb := 6 * (60 * m + B) + 0) dL_isWhole_359 rfl YL_priority kL_307 (h_priority hX (by omega)) rfl rfl rfl (Nat.le_of_ble_eq_true rfl) (by decide) (fun w16 k16 hX => ?_)
          have kp := kp.tr k16
          refine J_icmp_ne (tgt := 374) dL_isWhole_362 (by decide) (fun h => absurd ((nI_eq (by omega) (by omega)).mpr (by omega)) h) (fun h362 => ?_)
          refine J_iload dL_isWhole_365 rfl ?_
          refine J_iload dL_isWhole_367 rfl ?_
          refine J_icmp_le (tgt := 374) dL_isWhole_369 (by decide) (fun h369 => ?_) (fun h => absurd ((nI_leI (by omega) (by omega)).mpr (by omega)) h)
          refine J_iinc (v := nI (t + 1)) dL_isWhole_374 rfl (nI_succ _).symm (by decide) rfl ?_
          refine J_goto (tgt := 194) dL_isWhole_377 (by decide) ?_
          exact ih (t + 1) _ _ _ _ (by omega) kp hX
        · 
          refine J_aload_n dL_isWhole_302 rfl rfl ?_
          refine J_iload dL_isWhole_303 rfl ?_
          refine K_h (v := nI a) (kb := 60 * m + B + 5) (sb := 6 * (60 * m + B) + 30) dL_isWhole_305 rfl YL_trainByPriority kL_339 (h_trainByPriority hX (by omega)) (oV_s ha) rfl rfl (Nat.le_of_ble_eq_true rfl) (by decide) (fun w11 k11 hX => ?_)
          have kp := kp.tr k11
          refine J_istore dL_isWhole_308 (by decide) rfl ?_
          refine J_iload dL_isWhole_310 rfl ?_
          refine J_if_ne (tgt := 320) dL_isWhole_312 (by decide) (fun h312 => ?_) (fun h => absurd h (nI_ne0 (by omega) (by omega)))
          refine J_aload_n dL_isWhole_320 rfl rfl ?_
          refine J_iload dL_isWhole_321 rfl ?_
          refine J_iconst (v := nI 1) dL_isWhole_323 (by decide) ?_
          refine K_isub (v := nI (t - 1)) dL_isWhole_324 (nI_sub (by omega)) ?_
          refine K_h (v := nI c) (kb := 60 * m + B + 4) (sb := 6 * (60 * m + B) + 24) dL_isWhole_325 rfl YL_trainByPriority kL_339 (h_trainByPriority hX (by omega)) (oV_s hc) rfl rfl (Nat.le_of_ble_eq_true rfl) (by decide) (fun w12 k12 hX => ?_)
          have kp := kp.tr k12
          refine J_istore dL_isWhole_328 (by decide) rfl ?_
          refine J_aload_n dL_isWhole_330 rfl rfl ?_
          refine J_iload dL_isWhole_331 rfl ?_
          refine K_h (v := nI (sPr (gS G) c)) (kb := 60 * m + B + 3) (sb := 6 * (60 * m + B) + 18) dL_isWhole_333 rfl YL_priority kL_307 (h_priority hX (by omega)) rfl rfl rfl (Nat.le_of_ble_eq_true rfl) (by decide) (fun w13 k13 hX => ?_)
          have kp := kp.tr k13
          refine J_aload_n dL_isWhole_336 rfl rfl ?_
          refine J_iload dL_isWhole_337 rfl ?_
          refine K_h (v := nI (sPr (gS G) a)) (kb := 60 * m + B + 2) (sb := 6 * (60 * m + B) + 12) dL_isWhole_339 rfl YL_priority kL_307 (h_priority hX (by omega)) rfl rfl rfl (Nat.le_of_ble_eq_true rfl) (by decide) (fun w14 k14 hX => ?_)
          have kp := kp.tr k14
          refine J_icmp_lt (tgt := 372) dL_isWhole_342 (by decide) (fun h => absurd ((nI_ltI (by omega) (by omega)).mp h) (by omega)) (fun h342 => ?_)
          refine J_iload dL_isWhole_345 rfl ?_
          refine J_if_le (tgt := 374) dL_isWhole_347 (by decide) (fun h => absurd h (fun q => absurd ((nI_leI (b := 0) (by omega) (by omega)).mp q) (by omega))) (fun h347 => ?_)
          refine J_aload_n dL_isWhole_350 rfl rfl ?_
          refine J_iload dL_isWhole_351 rfl ?_
          refine K_h (v := nI (sPr (gS G) c)) (kb := 60 * m + B + 1) (sb := 6 * (60 * m + B) + 6) dL_isWhole_353 rfl YL_priority kL_307 (h_priority hX (by omega)) rfl rfl rfl (Nat.le_of_ble_eq_true rfl) (by decide) (fun w15 k15 hX => ?_)
          have kp := kp.tr k15
          refine J_aload_n dL_isWhole_356 rfl rfl ?_
          refine J_iload dL_isWhole_357 rfl ?_
          refine K_h (v := nI (sPr (gS G) a)) (kb := 60 * m + B + 0) (sb := 6 * (60 * m + B) + 0) dL_isWhole_359 rfl YL_priority kL_307 (h_priority hX (by omega)) rfl rfl rfl (Nat.le_of_ble_eq_true rfl) (by decide) (fun w16 k16 hX => ?_)
          have kp := kp.tr k16
          refine J_icmp_ne (tgt := 374) dL_isWhole_362 (by decide) (fun h362 => ?_) (fun h => absurd ((nI_eq (by omega) (by omega)).mp h) (by omega))
          refine J_iinc (v := nI (t + 1)) dL_isWhole_374 rfl (nI_succ _).symm (by decide) rfl ?_
          refine J_goto (tgt := 194) dL_isWhole_377 (by decide) ?_
          exact J.widen (by omega) (by omega) (ih (t + 1) _ _ _ _ (by omega) kp hX)
    have dead : ∀ w1 o o12 o13, (o = some t ↔ cycB (bk (gS G)) t = true) → (∀ u, o = some u → u < sNt (gS G)) → KP w w1 x → RepX w1 x G → J 51 mL_isWhole 285 [some (.ref x), some (.ref 3), some (.int (nI k)), some (.int (b2i al)), some (.int (nI (sNt (gS G)))), some (.int (nI (sNb (gS G)))), some (.int (nI (sNt (gS G)))), some (.ref r), some (.int (sumW (sWa (gS G)) (t + 1))), some (.int (nI (cnt t (cycB (bk (gS G)))))), some (.int (nI t)), some (.int (oV o)), o12, o13] [] w1 ((60 * m + B) + 6) (6 * ((60 * m + B) + 6)) (YQ w x G) := by
      intro w1 o o12 o13 ho hu kp hX
      cases hcy : cycB (bk (gS G)) t with
      | true =>
        have e := ho.mpr hcy
        subst e
        rw [show oV (some t) = nI t from rfl]
        refine J_iload dL_isWhole_285 rfl ?_
        refine J_iload dL_isWhole_287 rfl ?_
        refine J_iload dL_isWhole_289 rfl ?_
        refine J_icmp_ne (tgt := 298) dL_isWhole_291 (by decide) (fun h => absurd ((nI_eq (by omega) (by omega)).mpr (by omega)) h) (fun h291 => ?_)
        refine J_iconst (v := nI 1) dL_isWhole_294 (by decide) ?_
        refine J_goto (tgt := 299) dL_isWhole_295 (by decide) ?_
        refine K_iadd (v := nI (cnt t (cycB (bk (gS G))) + 1)) dL_isWhole_299 (nI_add _ _) ?_
        refine J_istore dL_isWhole_300 (by decide) rfl ?_
        have k := fun o11 o12 o13 => ord _ o11 o12 o13 kp hX
        rw [show cnt (t + 1) (cycB (bk (gS G))) = cnt t (cycB (bk (gS G))) + 1 from by rw [cnt_s, hcy]; rfl] at k
        exact k _ _ _
      | false =>
        have hne : ¬ oV o = nI t := fun q => by
          cases o with
          | none => exact absurd q.symm (nI_ne_neg (by omega) (by decide))
          | some u =>
            have := nI_inj (by have := hu u rfl; omega) (by omega) q
            subst this
            rw [ho.mp rfl] at hcy
            cases hcy
        refine J_iload dL_isWhole_285 rfl ?_
        refine J_iload dL_isWhole_287 rfl ?_
        refine J_iload dL_isWhole_289 rfl ?_
        refine J_icmp_ne (tgt := 298) dL_isWhole_291 (by decide) (fun h291 => ?_) (fun h => absurd h hne)
        refine J_iconst (v := nI 0) dL_isWhole_298 (by decide) ?_
        refine K_iadd (v := nI (cnt t (cycB (bk (gS G))) + 0)) dL_isWhole_299 (nI_add _ _) ?_
        refine J_istore dL_isWhole_300 (by decide) rfl ?_
        have k := fun o11 o12 o13 => ord _ o11 o12 o13 kp hX
        rw [show cnt (t + 1) (cycB (bk (gS G))) = cnt t (cycB (bk (gS G))) + 0 from by rw [cnt_s, hcy]; rfl] at k
        exact k _ _ _
    have fol : ∀ q i w1 o13, i + q = 6 → (∀ j, 1 ≤ j → j ≤ i → it (bk (gS G)) j t ≠ some t) → KP w w1 x → RepX w1 x G → J 51 mL_isWhole 252 [some (.ref x), some (.ref 3), some (.int (nI k)), some (.int (b2i al)), some (.int (nI (sNt (gS G)))), some (.int (nI (sNb (gS G)))), some (.int (nI (sNt (gS G)))), some (.ref r), some (.int (sumW (sWa (gS G)) (t + 1))), some (.int (nI (cnt t (cycB (bk (gS G)))))), some (.int (nI t)), some (.int (oV (it (bk (gS G)) (i + 1) t))), some (.int (nI i)), o13] [] w1 (q + ((60 * m + B) + 6)) (6 * (q + ((60 * m + B) + 6))) (YQ w x G) := by
      have hBlt : ∀ a u, bk (gS G) a = some u → u < sNt (gS G) := fun a u h => bk_lt h
      intro q
      induction q with
      | zero =>
        intro i w1 o13 hi hno kp hX
        refine J_iload dL_isWhole_252 rfl ?_
        refine J_bipush (v := nI 6) dL_isWhole_254 (by decide) ?_
        refine J_icmp_ge (tgt := 285) dL_isWhole_256 (by decide) (fun h256 => ?_) (fun h => absurd ((nI_leI (by omega) (by omega)).mpr (by omega)) h)
        exact J.widen (by omega) (by omega) (dead _ _ _ _ (cyc_end hBlt hnt htn (by omega) hno (Or.inl (by omega))) (fun u hu => it_lt hBlt htn hu) kp hX)
      | succ q ihq =>
        intro i w1 o13 hi hno kp hX
        cases hit : it (bk (gS G)) (i + 1) t with
        | none =>
          rw [show oV none = (-75 : Int32) from rfl]
          refine J_iload dL_isWhole_252 rfl ?_
          refine J_bipush (v := nI 6) dL_isWhole_254 (by decide) ?_
          refine J_icmp_ge (tgt := 285) dL_isWhole_256 (by decide) (fun h => absurd ((nI_leI (by omega) (by omega)).mp h) (by omega)) (fun h256 => ?_)
          refine J_iload dL_isWhole_259 rfl ?_
          refine J_if_lt (tgt := 285) dL_isWhole_261 (by decide) (fun h261 => ?_) (fun h => absurd h (by decide))
          have k := dead _ none (some (.int (nI i))) o13 (by have h9 := cyc_end hBlt hnt htn (by omega) hno (Or.inr (Or.inl hit)); rw [hit] at h9; exact h9) (fun u hu => by cases hu) kp hX
          exact J.widen (by omega) (by omega) k
        | some u =>
          have hu := it_lt hBlt htn hit
          rw [show oV (some u) = nI u from rfl]
          by_cases hut : u = t
          · subst hut
            refine J_iload dL_isWhole_252 rfl ?_
            refine J_bipush (v := nI 6) dL_isWhole_254 (by decide) ?_
            refine J_icmp_ge (tgt := 285) dL_isWhole_256 (by decide) (fun h => absurd ((nI_leI (by omega) (by omega)).mp h) (by omega)) (fun h256 => ?_)
            refine J_iload dL_isWhole_259 rfl ?_
            refine J_if_lt (tgt := 285) dL_isWhole_261 (by decide) (fun h => absurd h (nI_pos (by omega))) (fun h261 => ?_)
            refine J_iload dL_isWhole_264 rfl ?_
            refine J_iload dL_isWhole_266 rfl ?_
            refine J_icmp_eq (tgt := 285) dL_isWhole_268 (by decide) (fun h268 => ?_) (fun h => absurd ((nI_eq (by omega) (by omega)).mpr (by omega)) h)
            have k := dead _ (some u) (some (.int (nI i))) o13 (by have h9 := cyc_end hBlt hnt htn (by omega) hno (Or.inr (Or.inr hit)); rw [hit] at h9; exact h9) (fun v hv => by cases hv; exact hu) kp hX
            exact J.widen (by omega) (by omega) k
          · refine J.widen (kb' := (q + ((60 * m + B) + 6)) + 1) (sb' := 6 * (q + ((60 * m + B) + 6)) + 6) (by omega) (by omega) ?_
            refine J_iload dL_isWhole_252 rfl ?_
            refine J_bipush (v := nI 6) dL_isWhole_254 (by decide) ?_
            refine J_icmp_ge (tgt := 285) dL_isWhole_256 (by decide) (fun h => absurd ((nI_leI (by omega) (by omega)).mp h) (by omega)) (fun h256 => ?_)
            refine J_iload dL_isWhole_259 rfl ?_
            refine J_if_lt (tgt := 285) dL_isWhole_261 (by decide) (fun h => absurd h (nI_pos (by omega))) (fun h261 => ?_)
            refine J_iload dL_isWhole_264 rfl ?_
            refine J_iload dL_isWhole_266 rfl ?_
            refine J_icmp_eq (tgt := 285) dL_isWhole_268 (by decide) (fun h => absurd ((nI_eq (by omega) (by omega)).mp h) (by omega)) (fun h268 => ?_)
            refine J_aload_n dL_isWhole_271 rfl rfl ?_
            refine J_iload dL_isWhole_272 rfl ?_
            refine K_h (v := oV (bk (gS G) u)) (kb := q + ((60 * m + B) + 6) + 0) (sb := 6 * (q + ((60 * m + B) + 6)) + 0) dL_isWhole_274 rfl YL_blockedBy kL_331 (h_blockedBy hX (by omega)) rfl rfl rfl (Nat.le_of_ble_eq_true rfl) (by decide) (fun w11 k11 hX => ?_)
            have kp := kp.tr k11
            refine J_istore dL_isWhole_277 (by decide) rfl ?_
            refine J_iinc (v := nI (i + 1)) dL_isWhole_279 rfl (nI_succ _).symm (by decide) rfl ?_
            refine J_goto (tgt := 252) dL_isWhole_282 (by decide) ?_
            have k := ihq (i + 1) _ o13 (by omega) (fun j h1 h2 => by
              by_cases e : j = i + 1
              · rw [e, hit]
                exact fun z => hut (Option.some.inj z)
              · exact hno j h1 (by omega)) kp hX
            rw [show it (bk (gS G)) (i + 1 + 1) t = bk (gS G) u from by show (it (bk (gS G)) (i + 1) t).bind (bk (gS G)) = _; rw [hit]; rfl] at k
            exact k
    have beh : ∀ w1 o11 o12 o13, KP w w1 x → RepX w1 x G → J 51 mL_isWhole 230 [some (.ref x), some (.ref 3), some (.int (nI k)), some (.int (b2i al)), some (.int (nI (sNt (gS G)))), some (.int (nI (sNb (gS G)))), some (.int (nI (sNt (gS G)))), some (.ref r), some (.int (sumW (sWa (gS G)) t)), some (.int (nI (cnt t (cycB (bk (gS G)))))), some (.int (nI t)), o11, o12, o13] [] w1 ((60 * m + B) + 14) (6 * ((60 * m + B) + 14)) (YQ w x G) := by
      intro w1 o11 o12 o13 kp hX
      refine J.widen (kb' := (6 + ((60 * m + B) + 6)) + 2) (sb' := 6 * (6 + ((60 * m + B) + 6)) + 12) (by omega) (by omega) ?_
      refine J_iload dL_isWhole_230 rfl ?_
      refine J_aload_n dL_isWhole_232 rfl rfl ?_
      refine J_iload dL_isWhole_233 rfl ?_
      refine K_h (v := sWa (gS G) t) (kb := 6 + ((60 * m + B) + 6) + 1) (sb := 6 * (6 + ((60 * m + B) + 6)) + 6) dL_isWhole_235 rfl YL_waits kL_313 (h_waits hX (by omega)) rfl rfl rfl (Nat.le_of_ble_eq_true rfl) (by decide) (fun w11 k11 hX => ?_)
      have kp := kp.tr k11
      refine K_iadd (v := (sumW (sWa (gS G)) t + sWa (gS G) t)) dL_isWhole_238 rfl ?_
      refine J_istore dL_isWhole_239 (by decide) rfl ?_
      refine J_aload_n dL_isWhole_241 rfl rfl ?_
      refine J_iload dL_isWhole_242 rfl ?_
      refine K_h (v := oV (bk (gS G) t)) (kb := 6 + ((60 * m + B) + 6) + 0) (sb := 6 * (6 + ((60 * m + B) + 6)) + 0) dL_isWhole_244 rfl YL_blockedBy kL_331 (h_blockedBy hX (by omega)) rfl rfl rfl (Nat.le_of_ble_eq_true rfl) (by decide) (fun w12 k12 hX => ?_)
      have kp := kp.tr k12
      refine J_istore dL_isWhole_247 (by decide) rfl ?_
      refine J_iconst (v := nI 0) dL_isWhole_249 (by decide) ?_
      refine J_istore dL_isWhole_250 (by decide) rfl ?_
      exact fol 6 0 _ _ (by omega) (fun j h1 h2 => by omega) kp hX
    have trn : ∀ w1 o11 o12 o13, KP w w1 x → RepX w1 x G → J 51 mL_isWhole 219 [some (.ref x), some (.ref 3), some (.int (nI k)), some (.int (b2i al)), some (.int (nI (sNt (gS G)))), some (.int (nI (sNb (gS G)))), some (.int (nI (sNt (gS G)))), some (.ref r), some (.int (sumW (sWa (gS G)) t)), some (.int (nI (cnt t (cycB (bk (gS G)))))), some (.int (nI t)), o11, o12, o13] [] w1 ((60 * m + B) + 54) (6 * ((60 * m + B) + 54)) (YQ w x G) := by
      intro w1 o11 o12 o13 kp hX
      refine J.widen (kb' := ((60 * m + B) + 14) + 40) (sb' := 6 * ((60 * m + B) + 14) + 240) (by omega) (by omega) ?_
      refine J_aload_n dL_isWhole_219 rfl rfl ?_
      refine J_iload dL_isWhole_220 rfl ?_
      refine K_sc (kb := (60 * m + B) + 14 + 0) (sb := 6 * ((60 * m + B) + 14) + 0) dL_isWhole_222 YL_isTrain kL_335 (c_L_isTrain hX hg hK (by omega)) rfl rfl (Nat.le_of_ble_eq_true rfl) (by decide) (fun r222 w222 q222 => ?_)
      obtain ⟨rfl, k9, hX⟩ := q222
      have kp := kp.tr k9
      refine J_if_ne (tgt := 230) dL_isWhole_225 (by decide) (fun h225 => ?_) (fun h => absurd h (by decide))
      exact beh _ _ _ _ kp hX
    refine J.widen (kb' := ((60 * m + B) + 54) + 0) (sb' := 6 * ((60 * m + B) + 54) + 0) (by omega) (by omega) ?_
    cases al with
    | true =>
      refine J_iload dL_isWhole_194 rfl ?_
      refine J_iload dL_isWhole_196 rfl ?_
      refine J_icmp_ge (tgt := 380) dL_isWhole_198 (by decide) (fun h => absurd ((nI_leI (by omega) (by omega)).mp h) (by omega)) (fun h198 => ?_)
      refine J_iload_n dL_isWhole_201 rfl rfl ?_
      refine J_if_ne (tgt := 219) dL_isWhole_202 (by decide) (fun h202 => ?_) (fun h => absurd h (by decide))
      exact trn _ _ _ _ kp hX
    | false =>
      refine J_iload dL_isWhole_194 rfl ?_
      refine J_iload dL_isWhole_196 rfl ?_
      refine J_icmp_ge (tgt := 380) dL_isWhole_198 (by decide) (fun h => absurd ((nI_leI (by omega) (by omega)).mp h) (by omega)) (fun h198 => ?_)
      refine J_iload_n dL_isWhole_201 rfl rfl ?_
      refine J_if_ne (tgt := 219) dL_isWhole_202 (by decide) (fun h => absurd h (by decide)) (fun h202 => ?_)
      refine J_iload dL_isWhole_205 rfl ?_
      refine J_aload_n dL_isWhole_207 rfl rfl ?_
      refine J_iload_n dL_isWhole_208 rfl rfl ?_
      refine J_iconst (v := nI 1) dL_isWhole_209 (by decide) ?_
      refine K_iadd (v := nI (k + 1)) dL_isWhole_210 (nI_add _ _) ?_
      refine J_bipush (v := nI 6) dL_isWhole_211 (by decide) ?_
      refine K_sc (kb := (60 * m + B) + 54 + 0) (sb := 6 * ((60 * m + B) + 54) + 0) dL_isWhole_213 YL_pick kL_196 (c_L_pick (by omega) (by omega) (by omega)) rfl rfl (Nat.le_of_ble_eq_true rfl) (by decide) (fun r213 w213 q213 => ?_)
      obtain ⟨rfl, jj, hjj, rfl⟩ := q213
      by_cases hpt : t = jj
      · 
        refine J_icmp_ne (tgt := 230) dL_isWhole_216 (by decide) (fun h => absurd ((nI_eq (by omega) (by omega)).mpr (by omega)) h) (fun h216 => ?_)
        exact trn _ _ _ _ kp hX
      · 
        refine J_icmp_ne (tgt := 230) dL_isWhole_216 (by decide) (fun h216 => ?_) (fun h => absurd ((nI_eq (by omega) (by omega)).mp h) (by omega))
        exact J.widen (by omega) (by omega) (beh _ _ _ _ kp hX)

set_option maxRecDepth 100000 in
/-- the end: statistics, stuck trains, and all that is checked now and then -/
theorem iw_3 {w : Wd} {x r k K : Nat} {G : Gme} {al : Bool} (hg : WG (gS G) K) : ∀ w1 o11 o12 o13, KP w w1 x → RepX w1 x G → J 51 mL_isWhole 380 [some (.ref x), some (.ref 3), some (.int (nI k)), some (.int (b2i al)), some (.int (nI (sNt (gS G)))), some (.int (nI (sNb (gS G)))), some (.int (nI (sNt (gS G)))), some (.ref r), some (.int (sumW (sWa (gS G)) (sNt (gS G)))), some (.int (nI (stN (gS G)))), some (.int (nI (sNt (gS G)))), o11, o12, o13] [] w1 (8400 + 10) (6 * (8400 + 10)) (YQ w x G) := by
  have hW := hg.1
  have hnb := hW.nb
  have hnt := hW.nt
  have hst : stN (gS G) ≤ 6 := Nat.le_trans (cnt_le _ _) hnt
  have hcy := cyc_two hg
  have fin : ∀ w1 o12 o13, KP w w1 x → RepX w1 x G → J 51 mL_isWhole 469 [some (.ref x), some (.ref 3), some (.int (nI k)), some (.int (b2i al)), some (.int (nI (sNt (gS G)))), some (.int (nI (sNb (gS G)))), some (.int (nI (sNt (gS G)))), some (.ref r), some (.int (sumW (sWa (gS G)) (sNt (gS G)))), some (.int (nI (stN (gS G)))), some (.int (nI 1)), some (.int (nI 1)), o12, o13] [] w1 (8400 + 5) (6 * (8400 + 5)) (YQ w x G) := by
    intro w1 o12 o13 kp hX
    refine J.widen (kb' := 8003 + 2) (sb' := 50010 + 12) (by omega) (by omega) ?_
    cases al with
    | false =>
      refine J_iload dL_isWhole_469 rfl ?_
      refine J_if_eq (tgt := 533) dL_isWhole_471 (by decide) (fun h => absurd h (by decide)) (fun h471 => ?_)
      refine J_iload dL_isWhole_474 rfl ?_
      refine J_if_eq (tgt := 533) dL_isWhole_476 (by decide) (fun h => absurd h (by decide)) (fun h476 => ?_)
      refine J_iload dL_isWhole_479 rfl ?_
      refine J_iload dL_isWhole_481 rfl ?_
      refine J_icmp_ne (tgt := 533) dL_isWhole_483 (by decide) (fun h => absurd ((nI_eq (by omega) (by omega)).mpr (by omega)) h) (fun h483 => ?_)
      refine J_iload dL_isWhole_486 rfl ?_
      refine J_bipush (v := nI 6) dL_isWhole_488 (by decide) ?_
      refine J_icmp_gt (tgt := 533) dL_isWhole_490 (by decide) (fun h => absurd ((nI_ltI (by omega) (by omega)).mp h) (by omega)) (fun h490 => ?_)
      refine J_iload dL_isWhole_493 rfl ?_
      refine J_bipush (v := nI 14) dL_isWhole_495 (by decide) ?_
      refine J_icmp_gt (tgt := 533) dL_isWhole_497 (by decide) (fun h => absurd ((nI_ltI (by omega) (by omega)).mp h) (by omega)) (fun h497 => ?_)
      refine J_aload_n dL_isWhole_500 rfl rfl ?_
      refine J_iload dL_isWhole_501 rfl ?_
      refine K_h (v := (-75)) (kb := 8004) (sb := 50016) dL_isWhole_503 rfl YL_trainByPriority kL_339 (h_trainByPriority hX (by omega)) (oV_n (rkT_no (Nat.le_refl _))) rfl rfl (Nat.le_of_ble_eq_true rfl) (by decide) (fun w11 k11 hX => ?_)
      have kp := kp.tr k11
      refine J_bipush (v := (-75)) dL_isWhole_506 (by decide) ?_
      refine J_icmp_ne (tgt := 533) dL_isWhole_508 (by decide) (fun h => absurd h (by decide)) (fun h508 => ?_)
      refine J_iload_n dL_isWhole_511 rfl rfl ?_
      refine J_if_eq (tgt := 529) dL_isWhole_512 (by decide) (fun h512 => ?_) (fun h => absurd h (by decide))
      refine J_iconst (v := nI 1) dL_isWhole_529 (by decide) ?_
      refine J_goto (tgt := 534) dL_isWhole_530 (by decide) ?_
      exact J_ireturn dL_isWhole_534 rfl narB1 (RP_i ⟨rfl, kp, hX⟩)
    | true =>
      refine J_iload dL_isWhole_469 rfl ?_
      refine J_if_eq (tgt := 533) dL_isWhole_471 (by decide) (fun h => absurd h (by decide)) (fun h471 => ?_)
      refine J_iload dL_isWhole_474 rfl ?_
      refine J_if_eq (tgt := 533) dL_isWhole_476 (by decide) (fun h => absurd h (by decide)) (fun h476 => ?_)
      refine J_iload dL_isWhole_479 rfl ?_
      refine J_iload dL_isWhole_481 rfl ?_
      refine J_icmp_ne (tgt := 533) dL_isWhole_483 (by decide) (fun h => absurd ((nI_eq (by omega) (by omega)).mpr (by omega)) h) (fun h483 => ?_)
      refine J_iload dL_isWhole_486 rfl ?_
      refine J_bipush (v := nI 6) dL_isWhole_488 (by decide) ?_
      refine J_icmp_gt (tgt := 533) dL_isWhole_490 (by decide) (fun h => absurd ((nI_ltI (by omega) (by omega)).mp h) (by omega)) (fun h490 => ?_)
      refine J_iload dL_isWhole_493 rfl ?_
      refine J_bipush (v := nI 14) dL_isWhole_495 (by decide) ?_
      refine J_icmp_gt (tgt := 533) dL_isWhole_497 (by decide) (fun h => absurd ((nI_ltI (by omega) (by omega)).mp h) (by omega)) (fun h497 => ?_)
      refine J_aload_n dL_isWhole_500 rfl rfl ?_
      refine J_iload dL_isWhole_501 rfl ?_
      refine K_h (v := (-75)) (kb := 8004) (sb := 50016) dL_isWhole_503 rfl YL_trainByPriority kL_339 (h_trainByPriority hX (by omega)) (oV_n (rkT_no (Nat.le_refl _))) rfl rfl (Nat.le_of_ble_eq_true rfl) (by decide) (fun w11 k11 hX => ?_)
      have kp := kp.tr k11
      refine J_bipush (v := (-75)) dL_isWhole_506 (by decide) ?_
      refine J_icmp_ne (tgt := 533) dL_isWhole_508 (by decide) (fun h => absurd h (by decide)) (fun h508 => ?_)
      refine J_iload_n dL_isWhole_511 rfl rfl ?_
      refine J_if_eq (tgt := 529) dL_isWhole_512 (by decide) (fun h => absurd h (by decide)) (fun h512 => ?_)
      refine J_aload_n dL_isWhole_515 rfl rfl ?_
      refine K_sc (kb := 4) (sb := 16) dL_isWhole_516 YL_areWays kL_353 (c_L_areWays hX) rfl rfl (Nat.le_of_ble_eq_true rfl) (by decide) (fun r516 w516 q516 => ?_)
      obtain ⟨rfl, k9, hX⟩ := q516
      have kp := kp.tr k9
      refine J_if_eq (tgt := 533) dL_isWhole_519 (by decide) (fun h => absurd h (by decide)) (fun h519 => ?_)
      refine J_aload_n dL_isWhole_522 rfl rfl ?_
      refine K_hV (v := nI 1) (kb := 3) (sb := 10) dL_isWhole_523 YX8_isConsistent kL_357 hX.rc (c_X8_isConsistent hX) rfl rfl rfl (Nat.le_of_ble_eq_true rfl) (by decide) (fun w12 k12 hX => ?_)
      have kp := kp.tr k12
      refine J_if_eq (tgt := 533) dL_isWhole_526 (by decide) (fun h => absurd h (by decide)) (fun h526 => ?_)
      refine J_iconst (v := nI 1) dL_isWhole_529 (by decide) ?_
      refine J_goto (tgt := 534) dL_isWhole_530 (by decide) ?_
      exact J_ireturn dL_isWhole_534 rfl narB1 (RP_i ⟨rfl, kp, hX⟩)
  have mid : ∀ w1 o11 o12 o13, KP w w1 x → RepX w1 x G → J 51 mL_isWhole 438 [some (.ref x), some (.ref 3), some (.int (nI k)), some (.int (b2i al)), some (.int (nI (sNt (gS G)))), some (.int (nI (sNb (gS G)))), some (.int (nI (sNt (gS G)))), some (.ref r), some (.int (sumW (sWa (gS G)) (sNt (gS G)))), some (.int (nI (stN (gS G)))), some (.int (nI 1)), o11, o12, o13] [] w1 (8400 + 7) (6 * (8400 + 7)) (YQ w x G) := by
    intro w1 o11 o12 o13 kp hX
    refine J.widen (kb' := (8400 + 5) + 2) (sb' := 6 * (8400 + 5) + 12) (by omega) (by omega) ?_
    refine J_aload_n dL_isWhole_438 rfl rfl ?_
    refine K_hV (v := nI (stN (gS G))) (kb := 8400 + 5 + 1) (sb := 6 * (8400 + 5) + 6) dL_isWhole_439 YX8_deadlocked kL_347 hX.rc (c_X8_deadlocked hX) rfl rfl rfl (Nat.le_of_ble_eq_true rfl) (by decide) (fun w11 k11 hX => ?_)
    have kp := kp.tr k11
    refine J_iload dL_isWhole_442 rfl ?_
    refine J_icmp_ne (tgt := 466) dL_isWhole_444 (by decide) (fun h => absurd ((nI_eq (by omega) (by omega)).mpr (by omega)) h) (fun h444 => ?_)
    refine J_aload_n dL_isWhole_447 rfl rfl ?_
    refine K_hV (v := nI (stN (gS G))) (kb := 8400 + 5 + 0) (sb := 6 * (8400 + 5) + 0) dL_isWhole_448 YX8_deadlockedByTable kL_350 hX.rc (c_X8_deadlockedByTable hX) rfl rfl rfl (Nat.le_of_ble_eq_true rfl) (by decide) (fun w12 k12 hX => ?_)
    have kp := kp.tr k12
    refine J_iload dL_isWhole_451 rfl ?_
    refine J_icmp_ne (tgt := 466) dL_isWhole_453 (by decide) (fun h => absurd ((nI_eq (by omega) (by omega)).mpr (by omega)) h) (fun h453 => ?_)
    refine J_iload dL_isWhole_456 rfl ?_
    refine J_iconst (v := nI 1) dL_isWhole_458 (by decide) ?_
    refine J_icmp_eq (tgt := 466) dL_isWhole_459 (by decide) (fun h => absurd ((nI_eq (by omega) (by omega)).mp h) (by omega)) (fun h459 => ?_)
    refine J_iconst (v := nI 1) dL_isWhole_462 (by decide) ?_
    refine J_goto (tgt := 467) dL_isWhole_463 (by decide) ?_
    refine J_istore dL_isWhole_467 (by decide) rfl ?_
    exact fin _ _ _ kp hX
  have occ : ∀ w1 o11 o12 o13, KP w w1 x → RepX w1 x G → J 51 mL_isWhole 406 [some (.ref x), some (.ref 3), some (.int (nI k)), some (.int (b2i al)), some (.int (nI (sNt (gS G)))), some (.int (nI (sNb (gS G)))), some (.int (nI (sNt (gS G)))), some (.ref r), some (.int (sumW (sWa (gS G)) (sNt (gS G)))), some (.int (nI (stN (gS G)))), some (.int (nI (sNt (gS G)))), o11, o12, o13] [] w1 (8400 + 8) (6 * (8400 + 8)) (YQ w x G) := by
    intro w1 o11 o12 o13 kp hX
    refine J.widen (kb' := (8400 + 7) + 1) (sb' := 6 * (8400 + 7) + 6) (by omega) (by omega) ?_
    by_cases h0 : sNb (gS G) = 0
    · 
      refine J_aload_n dL_isWhole_406 rfl rfl ?_
      refine K_sch (kb := 8400 + 7 + 0) (sb := 6 * (8400 + 7) + 0) dL_isWhole_407 rfl YL_occupiedFraction kL_344 (c_L_occupiedFraction hX) rfl rfl (Nat.le_of_ble_eq_true rfl) (by decide) (fun r0 w9 q9 => ?_)
      obtain ⟨rfl, k9, hX⟩ := q9
      have kp := kp.tr k9
      rw [if_pos h0]
      refine J_iload dL_isWhole_410 rfl ?_
      refine J_if_ne (tgt := 420) dL_isWhole_412 (by decide) (fun h => absurd h (fun q => q (by rw [h0]; rfl))) (fun h412 => ?_)
      refine J_ldcf dL_isWhole_415 kf_145 ?_
      refine J_goto (tgt := 427) dL_isWhole_417 (by decide) ?_
      refine J_fcmp dL_isWhole_427 ?_
      refine J_if_ne (tgt := 435) dL_isWhole_428 (by decide) (fun h => absurd h (fun q => q (fcmp_sf fm74_n))) (fun h428 => ?_)
      refine J_iconst (v := nI 1) dL_isWhole_431 (by decide) ?_
      refine J_goto (tgt := 436) dL_isWhole_432 (by decide) ?_
      refine J_istore dL_isWhole_436 (by decide) rfl ?_
      exact mid _ _ _ _ kp hX
    · 
      refine J_aload_n dL_isWhole_406 rfl rfl ?_
      refine K_sch (kb := 8400 + 7 + 0) (sb := 6 * (8400 + 7) + 0) dL_isWhole_407 rfl YL_occupiedFraction kL_344 (c_L_occupiedFraction hX) rfl rfl (Nat.le_of_ble_eq_true rfl) (by decide) (fun r0 w9 q9 => ?_)
      obtain ⟨rfl, k9, hX⟩ := q9
      have kp := kp.tr k9
      rw [if_neg h0]
      refine J_iload dL_isWhole_410 rfl ?_
      refine J_if_ne (tgt := 420) dL_isWhole_412 (by decide) (fun h412 => ?_) (fun h => absurd h (nI_ne0 (by omega) (by omega)))
      refine J_iload dL_isWhole_420 rfl ?_
      refine J_i2f dL_isWhole_422 ?_
      refine J_iload dL_isWhole_423 rfl ?_
      refine J_i2f dL_isWhole_425 ?_
      refine J_fdiv dL_isWhole_426 (occ_n hW h0).1 ?_
      refine J_fcmp dL_isWhole_427 ?_
      refine J_if_ne (tgt := 435) dL_isWhole_428 (by decide) (fun h => absurd h (fun q => q (fcmp_sf (occ_n hW h0).1))) (fun h428 => ?_)
      refine J_iconst (v := nI 1) dL_isWhole_431 (by decide) ?_
      refine J_goto (tgt := 436) dL_isWhole_432 (by decide) ?_
      refine J_istore dL_isWhole_436 (by decide) rfl ?_
      exact mid _ _ _ _ kp hX
  intro w1 o11 o12 o13 kp hX
  refine J.widen (kb' := (8400 + 8) + 1) (sb' := 6 * (8400 + 8) + 6) (by omega) (by omega) ?_
  by_cases h0 : sNt (gS G) = 0
  · 
    refine J_aload_n dL_isWhole_380 rfl rfl ?_
    refine K_sch (kb := 8400 + 8 + 0) (sb := 6 * (8400 + 8) + 0) dL_isWhole_381 rfl YL_meanWaits kL_341 (c_L_meanWaits hX) rfl rfl (Nat.le_of_ble_eq_true rfl) (by decide) (fun r0 w9 q9 => ?_)
    obtain ⟨rfl, k9, hX⟩ := q9
    have kp := kp.tr k9
    rw [if_pos h0]
    refine J_iload dL_isWhole_384 rfl ?_
    refine J_if_ne (tgt := 395) dL_isWhole_386 (by decide) (fun h => absurd h (fun q => q (by rw [h0]; rfl))) (fun h386 => ?_)
    refine J_ldc2d dL_isWhole_389 kd_139 ?_
    refine J_goto (tgt := 402) dL_isWhole_392 (by decide) ?_
    refine J_dcmp dL_isWhole_402 ?_
    refine J_if_ne (tgt := 435) dL_isWhole_403 (by decide) (fun h => absurd h (fun q => q (dcmp_sf dm74_n))) (fun h403 => ?_)
    exact occ _ _ _ _ kp hX
  · 
    refine J_aload_n dL_isWhole_380 rfl rfl ?_
    refine K_sch (kb := 8400 + 8 + 0) (sb := 6 * (8400 + 8) + 0) dL_isWhole_381 rfl YL_meanWaits kL_341 (c_L_meanWaits hX) rfl rfl (Nat.le_of_ble_eq_true rfl) (by decide) (fun r0 w9 q9 => ?_)
    obtain ⟨rfl, k9, hX⟩ := q9
    have kp := kp.tr k9
    rw [if_neg h0]
    refine J_iload dL_isWhole_384 rfl ?_
    refine J_if_ne (tgt := 395) dL_isWhole_386 (by decide) (fun h386 => ?_) (fun h => absurd h (nI_ne0 (by omega) (by omega)))
    refine J_iload dL_isWhole_395 rfl ?_
    refine J_i2d dL_isWhole_397 ?_
    refine J_iload dL_isWhole_398 rfl ?_
    refine J_i2d dL_isWhole_400 ?_
    refine J_ddiv dL_isWhole_401 (mean_n hW h0) ?_
    refine J_dcmp dL_isWhole_402 ?_
    refine J_if_ne (tgt := 435) dL_isWhole_403 (by decide) (fun h => absurd h (fun q => q (dcmp_sf (mean_n hW h0)))) (fun h403 => ?_)
    exact occ _ _ _ _ kp hX
set_option maxRecDepth 100000 in
theorem c_L_isWhole {w : Wd} {x k K : Nat} {G : Gme} (hX : RepX w x G) (hg : WG (gS G) K) (hK : K < 2 ^ 31) (hk : k < 1000) (al : Bool) : MC 51 mL_isWhole 9000 60000 [.ref x, .ref 3, .int (nI k), .int (b2i al)] w (YQ w x G) := by
  refine MC_of pnL rfl (fun v hv => by simp only [List.mem_cons, List.not_mem_nil, or_false] at hv; rcases hv with rfl | rfl | rfl | rfl <;> rfl) (Nat.le_of_ble_eq_true rfl) (Or.inr (fun E w h => RP_no E w h)) ?_
  show J 51 mL_isWhole 0 [some (.ref x), some (.ref 3), some (.int (nI k)), some (.int (b2i al)), none, none, none, none, none, none, none, none, none, none] [] w 9000 60000 _
  have hW := hg.1
  have hnb := hW.nb
  have hnt := hW.nt
  have h1 := fun (r : Nat) => iw_1 (w := w) (x := x) (r := r) (k := k) (G := G) (al := al) hg
  have h2 := fun (r : Nat) => iw_2 (w := w) (x := x) (r := r) (k := k) (G := G) (al := al) hg hK hk (8400 + 10)
  have h3 := fun (r : Nat) => iw_3 (w := w) (x := x) (r := r) (k := k) (G := G) (al := al) hg
  have kp := KP.rf w x
  generalize hBB : 8400 + 10 = BB at h2 h3
  generalize hn9 : sNb (gS G) = nb at hnb h1 h2 h3
  generalize hn8 : sNt (gS G) = nt at hnt h1 h2 h3
  refine J.widen (kb' := ((7 * nb + (60 * nt + BB)) + 1) + 2) (sb' := (6 * (7 * nb + (60 * nt + BB)) + 7) + 12) (by omega) (by omega) ?_
  refine J_aload_n dL_isWhole_0 rfl rfl ?_
  refine K_hV (v := nI nt) (kb := ((7 * nb + (60 * nt + BB)) + 1) + 1) (sb := (6 * (7 * nb + (60 * nt + BB)) + 7) + 6) dL_isWhole_1 YX8_trainCount kL_200 hX.rc (c_X8_trainCount hX) (congrArg nI hn8) rfl rfl (Nat.le_of_ble_eq_true rfl) (by decide) (fun w1 k1 hX => ?_)
  have kp := kp.tr k1
  refine J_istore dL_isWhole_4 (by decide) rfl ?_
  refine J_aload_n dL_isWhole_6 rfl rfl ?_
  refine K_hV (v := nI nb) (kb := ((7 * nb + (60 * nt + BB)) + 1)) (sb := (6 * (7 * nb + (60 * nt + BB)) + 7)) dL_isWhole_7 YX8_blockCount kL_225 hX.rc (c_X8_blockCount hX) (congrArg nI hn9) rfl rfl (Nat.le_of_ble_eq_true rfl) (by decide) (fun w2 k2 hX => ?_)
  have kp := kp.tr k2
  refine J_istore dL_isWhole_10 (by decide) rfl ?_
  refine J_iconst (v := nI 0) dL_isWhole_12 (by decide) ?_
  refine J_istore dL_isWhole_13 (by decide) rfl ?_
  refine J_bipush (v := nI 7) dL_isWhole_15 (by decide) ?_
  refine F_newa_int (N := 7) dL_isWhole_17 ac_int (by decide) (by decide) (Nat.le_of_ble_eq_true rfl) (fun r w3 nc => ?_)
  obtain ⟨g1, g2, g3, g4, g5⟩ := nc
  have hr : x + 126 ≤ r := by have := g5 _ hX.lv.2; omega
  have hlo : ∀ b, w.1 b ≠ dead → b < r := fun b hb => by
    by_cases hq : b < x ∨ x + 126 ≤ b
    · exact g5 b (by rw [kp b hq hb]; exact hb)
    · omega
  have kp : KP w w3 x := fun b hb hb2 => (g3 b (by have := hlo b hb2; omega)).trans (kp b hb hb2)
  have hX : RepX w3 x G := hX.kp (fun b b1 b2 => g3 b (by omega))
  have hM : HM w3 r (gS G) 0 := ⟨_, g1, fun u hu => rfl⟩
  refine J_astore dL_isWhole_19 (by decide) rfl ?_
  refine J_iconst (v := nI 0) dL_isWhole_21 (by decide) ?_
  refine J_istore dL_isWhole_22 (by decide) rfl ?_
  refine h1 r hr hlo (60 * nt + BB) ?_ nb 0 w3 _ _ _ (by omega) kp hX hM
  intro w4 o8 o9 o10 o11 kp hX
  refine J_iconst (v := nI 0) dL_isWhole_185 (by decide) ?_
  refine J_istore dL_isWhole_186 (by decide) rfl ?_
  refine J_iconst (v := nI 0) dL_isWhole_188 (by decide) ?_
  refine J_istore dL_isWhole_189 (by decide) rfl ?_
  refine J_iconst (v := nI 0) dL_isWhole_191 (by decide) ?_
  refine J_istore dL_isWhole_192 (by decide) rfl ?_
  exact h2 r (h3 r) nt 0 w4 _ _ _ (by omega) kp hX

end JWHL

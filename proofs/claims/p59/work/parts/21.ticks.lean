/-! TRAFFIC: goals, ticks -/
section JTICKS
def PT (w : Wd) (a u : Nat) (R : Rs) : Po := RP (fun v w' => v = some (.int (ansC R)) ∧ RepC w' a R.2.2 ∧ RepT w' u ∧ F2 w w' a u)
theorem PT_no {w : Wd} {a u : Nat} {S : St} (h : RepC w a S) (hT : RepT w u) {R : Rs} {c : Nat} {x : Int32} (e : R = (c + 1, 0, S)) (hx : refC (c + 1) = x) {w2 : Wd} (h2 : RepC w2 a S) (hT2 : RepT w2 u) (f : F2 w w2 a u) : PT w a u R (.inl (some (.int x))) w2 := by
  subst e
  subst hx
  exact RP_i ⟨rfl, h2, hT2, f⟩
theorem ticks_nn (S : St) (k : Nat) : sNb (ticksN k S) = sNb S ∧ sNt (ticksN k S) = sNt S := by
  induction k with
  | zero => exact ⟨rfl, rfl⟩
  | succ k ih =>
    have h := acts_nn (ticksN k S) (sNt (ticksN k S))
    exact ⟨h.1.trans ih.1, h.2.1.trans ih.2⟩
theorem oTick_no {S : St} {x : Int32} (h : x < nI 1 ∨ nI 50 < x) : oTick S x = (2, 0, S) := by
  rw [lt_nI (by omega), nI_lt' (by omega)] at h
  unfold oTick
  rw [if_neg (by omega)]
theorem oTick_is {S : St} {c : Nat} (h1 : 1 ≤ c) (h2 : c ≤ 50) : oTick S (nI c) = (0, sAr (ticksN c S) - sAr S, ticksN c S) := by
  unfold oTick
  rw [nI_toInt (by omega), if_pos ⟨by omega, by omega⟩]
  simp
theorem v50_is {x : Int32} (h1 : ¬ x < nI 1) (h2 : ¬ nI 50 < x) : ∃ c, 1 ≤ c ∧ c ≤ 50 ∧ x = nI c := by
  rw [lt_nI (by omega)] at h1
  rw [nI_lt' (by omega)] at h2
  refine ⟨x.toInt.toNat, by omega, by omega, ?_⟩
  apply Int32.toInt_inj.mp
  rw [nI_toInt (by omega)]
  omega
/-- what a rank's train does -/
noncomputable def actO (S : St) (o : Option Nat) : St := match o with
  | none => S
  | some t => act S t
theorem acts_s {S : St} (h : WF S) {r : Nat} (hr : r < 2 ^ 31) : acts S (r + 1) = actO (acts S r) (rkX (acts S r) (nI r)) := by
  rw [rkX_n (wf_acts h r) hr]
  show (match rkT (acts S r) r with | none => acts S r | some t => act (acts S r) t) = _
  unfold actO
  cases rkT (acts S r) r <;> rfl
/-- the tick in which a train arrives -/
noncomputable def tta (S : St) (t : Nat) : Option Nat := (fnd 99 (fun k => (sGo (ticksN (k + 1) S) t).isNone)).map (· + 1)
theorem c_X7_aim {w : Wd} {u a : Nat} {S : St} (hT : RepT w u) (hL : RepC w a S) (hd : u + 7 ≤ a ∨ a + 9 ≤ u) (x y : Int32) : MC 4 mX7_aim 0 0 [.ref u, .ref a, .int x, .int y] w (PT w a u (oAim S x y)) := by
  obtain ⟨h1, h2, tO, tR, t5, t6⟩ := id hT
  obtain ⟨g1, g2, g3, rO, r1, r2, r3⟩ := id tR
  have hL_ := hL
  obtain ⟨x4, x5, x6, f1, f2, f3, f4, f5, f6, f7, f8, hO, ⟨k1, k2, k3, k4, k5, k6, k7, k8⟩, ⟨bc, ba, bo⟩, hlen, hlk, htr, hwf⟩ := hL_
  have hnb := hwf.nb
  have hnt := hwf.nt
  refine MC_j pnX7 rfl rfl rfl (Or.inr (fun E w h => RP_no E w h)) ?_
  show J 4 mX7_aim 0 [some (.ref u), some (.ref a), some (.int x), some (.int y), none] [] w 0 0 _
  refine J_aload_n dX7_aim_0 rfl rfl ?_
  refine J_iload_n dX7_aim_1 rfl rfl ?_
  refine K_callV dX7_aim_2 YX4_isTrain kX7_25 (rc_of hO rfl) (c_X4_isTrain hL _) rfl rfl (Nat.le_of_ble_eq_true rfl) (by decide) ?_
  refine J_if_eq (tgt := 16) dX7_aim_5 (by decide) (fun h5 => ?_) (fun h5 => ?_)
  · skip
    have e5 : (vi (sNt S) x).isSome = false := b2i_eq.mp h5
    have e5 := isS_no e5
    refine J_bipush (v := (-11)) dX7_aim_16 (by decide) ?_
    exact J_ireturn dX7_aim_18 rfl rfl (PT_no hL hT (c := 0) (by simp [oAim, e5]) rfl hL hT (F2.rf _ _ _))
  · skip
    have e5 : (vi (sNt S) x).isSome = true := b2i_ne.mp h5
    obtain ⟨i, e5⟩ := isS_yes e5
    obtain ⟨hi, rfl⟩ := vi_some (by omega) e5
    refine J_aload_n dX7_aim_8 rfl rfl ?_
    refine J_iload_n dX7_aim_9 rfl rfl ?_
    refine K_callV dX7_aim_10 YX4_isBlock kX7_31 (rc_of hO rfl) (c_X4_isBlock hL _) rfl rfl (Nat.le_of_ble_eq_true rfl) (by decide) ?_
    refine J_if_ne (tgt := 19) dX7_aim_13 (by decide) (fun h13 => ?_) (fun h13 => ?_)
    · skip
      have e13 : (vi (sNb S) y).isSome = true := b2i_ne.mp h13
      obtain ⟨j, e13⟩ := isS_yes e13
      obtain ⟨hj, rfl⟩ := vi_some (by omega) e13
      refine J_aload_n dX7_aim_19 rfl rfl ?_
      refine J_getfield dX7_aim_20 fX7_34 hO rfl ?_
      refine J_iload_n dX7_aim_23 rfl rfl ?_
      refine K_callSN dX7_aim_24 YX8_has kX7_38 (c_has w bc (by omega)) rfl rfl (Nat.le_of_ble_eq_true rfl) (by decide) ?_
      refine J_if_ne (tgt := 33) dX7_aim_27 (by decide) (fun h27 => ?_) (fun h27 => ?_)
      · skip
        have e27 : sCu S j = true := b2i_ne.mp h27
        refine J_aload_n dX7_aim_33 rfl rfl ?_
        refine J_getfield dX7_aim_34 fX7_42 hO rfl ?_
        refine J_iload_n dX7_aim_37 rfl rfl ?_
        have q38a := hwf.2.2.2.2.1 i (by omega)
        refine K_iald (v := nI (sPl S i)) dX7_aim_38 k3 (by omega) (by decide) (htr _ (by omega)).1 ?_
        refine J_iload_n dX7_aim_39 rfl rfl ?_
        refine J_icmp_ne (tgt := 46) dX7_aim_40 (by decide) (fun h40 => ?_) (fun h40 => ?_)
        · skip
          have h40 := mt (nI_eq (by omega) (by omega)).mpr h40
          refine J_aload_n dX7_aim_46 rfl rfl ?_
          refine J_getfield dX7_aim_47 fX7_12 tO rfl ?_
          refine J_aload_n dX7_aim_50 rfl rfl ?_
          refine J_aload_n dX7_aim_51 rfl rfl ?_
          refine J_getfield dX7_aim_52 fX7_42 hO rfl ?_
          refine J_iload_n dX7_aim_55 rfl rfl ?_
          have q56a := hwf.2.2.2.2.1 i (by omega)
          refine K_iald (v := nI (sPl S i)) dX7_aim_56 k3 (by omega) (by decide) (htr _ (by omega)).1 ?_
          refine K_callVp dX7_aim_57 YX6_measureByNearest kX7_45 (rc_of rO rfl) (c_X6_measureByNearest tR hL (by omega) (show sPl S i < sNb S by omega)) rfl rfl (Nat.le_of_ble_eq_true rfl) (by decide) (fun v57 w57 q57 => ?_)
          obtain ⟨rfl, hrow57⟩ := q57
          have hR57 := Row.rr tR hrow57
          obtain ⟨hF57, f57, hc57, hr57⟩ := hrow57
          have hT2 := hT.rt (hF57.wd (by omega) (by omega)) hR57
          have hL2 := hL.fr hF57 (by omega)
          have hO := (hF57.1 _ (by omega)).trans hO
          have k1 := (hF57.1 _ (by omega)).trans k1
          have k2 := (hF57.1 _ (by omega)).trans k2
          have k3 := (hF57.1 _ (by omega)).trans k3
          have k4 := (hF57.1 _ (by omega)).trans k4
          have k5 := (hF57.1 _ (by omega)).trans k5
          have k6 := (hF57.1 _ (by omega)).trans k6
          have k7 := (hF57.1 _ (by omega)).trans k7
          have k8 := (hF57.1 _ (by omega)).trans k8
          have r2 := (hF57.1 _ (by omega)).trans r2
          have r3 := (hF57.1 _ (by omega)).trans r3
          have rO := (hF57.1 _ (by omega)).trans rO
          have t5 := (hF57.1 _ (by omega)).trans t5
          have t6 := (hF57.1 _ (by omega)).trans t6
          have tO := (hF57.1 _ (by omega)).trans tO
          have r1 := hc57
          have hdf := dF_le hwf (s := sPl S i) hj
          refine J_aload_n dX7_aim_60 rfl rfl ?_
          refine J_getfield dX7_aim_61 fX7_12 tO rfl ?_
          refine J_getfield dX7_aim_64 fX7_49 rO rfl ?_
          refine J_iload_n dX7_aim_67 rfl rfl ?_
          refine K_iald (v := nI (dF 1000 (dS S (sPl S i) j))) dX7_aim_68 r1 (by omega) (by decide) (hr57 j hj) ?_
          refine J_istore dX7_aim_69 (by decide) rfl ?_
          refine J_iload dX7_aim_71 rfl ?_
          refine J_sipush (v := nI 1000) dX7_aim_73 (by decide) ?_
          refine J_icmp_lt (tgt := 82) dX7_aim_76 (by decide) (fun h76 => ?_) (fun h76 => ?_)
          · skip
            have h76 := (nI_ltI (by omega) (by omega)).mp h76
            obtain ⟨c, ec⟩ : ∃ c, dS S (sPl S i) j = some c := by
              cases q : dS S (sPl S i) j with
              | none => rw [q] at h76; exact absurd h76 (by show ¬ 1000 < 1000; omega)
              | some c => exact ⟨c, rfl⟩
            refine J_aload_n dX7_aim_82 rfl rfl ?_
            refine J_getfield dX7_aim_83 fX7_52 hO rfl ?_
            refine J_iload_n dX7_aim_86 rfl rfl ?_
            refine J_iload_n dX7_aim_87 rfl rfl ?_
            refine K_iast dX7_aim_88 k6 (by omega) (by decide) (fun w1 u1 => ?_)
            have hO := (u1.2.1 _ (by omega)).trans hO
            have k1 := (u1.2.1 _ (by omega)).trans k1
            have k2 := (u1.2.1 _ (by omega)).trans k2
            have k3 := (u1.2.1 _ (by omega)).trans k3
            have k4 := (u1.2.1 _ (by omega)).trans k4
            have k5 := (u1.2.1 _ (by omega)).trans k5
            have k6 := u1.1
            have k7 := (u1.2.1 _ (by omega)).trans k7
            have k8 := (u1.2.1 _ (by omega)).trans k8
            have r1 := (u1.2.1 _ (by omega)).trans r1
            have r2 := (u1.2.1 _ (by omega)).trans r2
            have r3 := (u1.2.1 _ (by omega)).trans r3
            have rO := (u1.2.1 _ (by omega)).trans rO
            have t5 := (u1.2.1 _ (by omega)).trans t5
            have t6 := (u1.2.1 _ (by omega)).trans t6
            have tO := (u1.2.1 _ (by omega)).trans tO
            refine J_iload dX7_aim_89 rfl ?_
            have hL3 : RepC w1 a (sGoal S i (some j)) := ⟨_, _, _, _, _, _, _, _, _, _, _, hO, ⟨k1, k2, k3, k4, k5, k6, k7, k8⟩, ⟨bc, ba, bo⟩, hlen, hlk, (fun t ht => ⟨(htr t ht).1, (htr t ht).2.1, (htr t ht).2.2.1, up_F oI rfl (fun e => (htr t ht).2.2.2.1), (htr t ht).2.2.2.2.1, (htr t ht).2.2.2.2.2⟩), (wf_goal hwf (fun x e => by cases e; exact hj))⟩
            exact J_ireturn dX7_aim_91 rfl rfl (RP_i ⟨by simp [oAim, e5, e13, e27, h40, ec, ansC, dF], (by simp [oAim, e5, e13, e27, h40, ec]; exact hL3), (hT2.fr ((Fr.rf _ a (a + 9)).up u1 (by omega) (by omega)) (by omega)), (((F2.rf _ _ _).fr hF57 (by omega)).up u1 (by omega))⟩)
          · skip
            have h76 := mt (nI_ltI (by omega) (by omega)).mpr h76
            have ec : dS S (sPl S i) j = none := by
              cases q : dS S (sPl S i) j with
              | none => rfl
              | some c =>
                have := dS_le hwf hj q
                rw [q] at h76
                have h76 : ¬ c < 1000 := h76
                omega
            refine J_bipush (v := (-15)) dX7_aim_79 (by decide) ?_
            exact J_ireturn dX7_aim_81 rfl rfl (PT_no hL hT (c := 4) (by simp [oAim, e5, e13, e27, h40, ec]) rfl hL2 hT2 ((F2.rf _ _ _).fr hF57 (by omega)))
        · skip
          have h40 := (nI_eq (by omega) (by omega)).mp h40
          refine J_bipush (v := (-14)) dX7_aim_43 (by decide) ?_
          exact J_ireturn dX7_aim_45 rfl rfl (PT_no hL hT (c := 3) (by simp [oAim, e5, e13, e27, h40]) rfl hL hT (F2.rf _ _ _))
      · skip
        have e27 : sCu S j = false := b2i_eq.mp h27
        refine J_bipush (v := (-12)) dX7_aim_30 (by decide) ?_
        exact J_ireturn dX7_aim_32 rfl rfl (PT_no hL hT (c := 1) (by simp [oAim, e5, e13, e27]) rfl hL hT (F2.rf _ _ _))
    · skip
      have e13 : (vi (sNb S) y).isSome = false := b2i_eq.mp h13
      have e13 := isS_no e13
      refine J_bipush (v := (-11)) dX7_aim_16 (by decide) ?_
      exact J_ireturn dX7_aim_18 rfl rfl (PT_no hL hT (c := 0) (by simp [oAim, e5, e13]) rfl hL hT (F2.rf _ _ _))

theorem c_X7_consider0 {w : Wd} {u a : Nat} {S : St} (hL : RepC w a S) : MC 5 mX7_consider 0 0 [.ref u, .ref a, .int (-1)] w (RU w) := by
  have hL_ := hL
  obtain ⟨x4, x5, x6, f1, f2, f3, f4, f5, f6, f7, f8, hO, ⟨k1, k2, k3, k4, k5, k6, k7, k8⟩, ⟨bc, ba, bo⟩, hlen, hlk, htr, hwf⟩ := hL_
  have hnb := hwf.nb
  have hnt := hwf.nt
  refine MC_j pnX7 rfl rfl rfl (Or.inr (fun E w h => by cases h.1)) ?_
  show J 5 mX7_consider 0 [some (.ref u), some (.ref a), some (.int (-1)), none] [] w 0 0 _
  refine J_aload_n dX7_consider_0 rfl rfl ?_
  refine J_iload_n dX7_consider_1 rfl rfl ?_
  refine K_callV dX7_consider_2 YX4_isTrain kX7_25 (rc_of hO rfl) (c_X4_isTrain hL _) rfl rfl (Nat.le_of_ble_eq_true rfl) (by decide) ?_
  rw [vi_none (by omega) (Or.inl (by decide))]
  refine J_if_eq (tgt := 19) dX7_consider_5 (by decide) (fun h5 => ?_) (fun h5 => absurd rfl h5)
  exact J_return dX7_consider_19 rfl ⟨rfl, rfl⟩

theorem c_X7_consider {w : Wd} {u a t : Nat} {S : St} (hT : RepT w u) (hL : RepC w a S) (hd : u + 7 ≤ a ∨ a + 9 ≤ u) (ht : t < sNt S) : MC 5 mX7_consider 0 0 [.ref u, .ref a, .int (nI t)] w (RP (fun v w' => v = none ∧ RepC w' a (act S t) ∧ RepT w' u ∧ F2 w w' a u)) := by
  obtain ⟨h1, h2, tO, tR, t5, t6⟩ := id hT
  obtain ⟨g1, g2, g3, rO, r1, r2, r3⟩ := id tR
  have hL_ := hL
  obtain ⟨x4, x5, x6, f1, f2, f3, f4, f5, f6, f7, f8, hO, ⟨k1, k2, k3, k4, k5, k6, k7, k8⟩, ⟨bc, ba, bo⟩, hlen, hlk, htr, hwf⟩ := hL_
  have hnb := hwf.nb
  have hnt := hwf.nt
  refine MC_j pnX7 rfl rfl rfl (Or.inr (fun E w h => RP_no E w h)) ?_
  show J 5 mX7_consider 0 [some (.ref u), some (.ref a), some (.int (nI t)), none] [] w 0 0 _
  refine J_aload_n dX7_consider_0 rfl rfl ?_
  refine J_iload_n dX7_consider_1 rfl rfl ?_
  refine K_callV dX7_consider_2 YX4_isTrain kX7_25 (rc_of hO rfl) (c_X4_isTrain hL _) rfl rfl (Nat.le_of_ble_eq_true rfl) (by decide) ?_
  refine J_if_eq (tgt := 19) dX7_consider_5 (by decide) (fun h5 => absurd (b2i_eq.mp h5) (by rw [vi_nI ht (by omega)]; simp)) (fun h5 => ?_)
  refine J_aload_n dX7_consider_8 rfl rfl ?_
  refine J_getfield dX7_consider_9 fX7_71 hO rfl ?_
  refine J_iload_n dX7_consider_12 rfl rfl ?_
  refine K_callSN dX7_consider_13 YX8_has kX7_38 (c_has w bo (by omega)) rfl rfl (Nat.le_of_ble_eq_true rfl) (by decide) ?_
  refine J_if_eq (tgt := 20) dX7_consider_16 (by decide) (fun h16 => ?_) (fun h16 => ?_)
  · skip
    have e16 : sOf S t = false := b2i_eq.mp h16
    refine J_aload_n dX7_consider_20 rfl rfl ?_
    refine J_getfield dX7_consider_21 fX7_74 hO rfl ?_
    refine J_iload_n dX7_consider_24 rfl rfl ?_
    have q25a := hwf.2.2.2.2.1 t (by omega)
    refine K_iald (v := nI (sRe S t)) dX7_consider_25 k5 (by omega) (by decide) (htr _ (by omega)).2.2.1 ?_
    refine J_if_le (tgt := 40) dX7_consider_26 (by decide) (fun h26 => ?_) (fun h26 => ?_)
    · skip
      have h26 := (nI_leI (b := 0) (by omega) (by omega)).mp h26
      refine J_aload_n dX7_consider_40 rfl rfl ?_
      refine J_getfield dX7_consider_41 fX7_12 tO rfl ?_
      refine J_aload_n dX7_consider_44 rfl rfl ?_
      refine J_iload_n dX7_consider_45 rfl rfl ?_
      refine K_callVp dX7_consider_46 YX6_nextFor kX7_77 (rc_of rO rfl) (c_X6_nextFor tR hL (by omega) ht) rfl rfl (Nat.le_of_ble_eq_true rfl) (by decide) (fun v46 w46 q46 => ?_)
      obtain ⟨rfl, hF46, hR46⟩ := q46
      have hO := (hF46.1 _ (by omega)).trans hO
      have k1 := (hF46.1 _ (by omega)).trans k1
      have k2 := (hF46.1 _ (by omega)).trans k2
      have k3 := (hF46.1 _ (by omega)).trans k3
      have k4 := (hF46.1 _ (by omega)).trans k4
      have k5 := (hF46.1 _ (by omega)).trans k5
      have k6 := (hF46.1 _ (by omega)).trans k6
      have k7 := (hF46.1 _ (by omega)).trans k7
      have k8 := (hF46.1 _ (by omega)).trans k8
      have rO := (hF46.1 _ (by omega)).trans rO
      have t5 := (hF46.1 _ (by omega)).trans t5
      have t6 := (hF46.1 _ (by omega)).trans t6
      have tO := (hF46.1 _ (by omega)).trans tO
      have hT2 := hT.rt hF46 hR46
      have hL2 := hL.fr hF46 (by omega)
      refine J_istore_n dX7_consider_49 rfl (by decide) rfl ?_
      refine J_iload_n dX7_consider_50 rfl rfl ?_
      refine J_iconst (v := (-1)) dX7_consider_51 (by decide) ?_
      refine J_icmp_ne (tgt := 56) dX7_consider_52 (by decide) (fun h52 => ?_) (fun h52 => ?_)
      · skip
        obtain ⟨k52, e52⟩ : ∃ k_, nx S t = some k_ := by
          cases q : nx S t with
          | none => exact absurd ((oI_m1 (nx_b hwf)).mpr q) h52
          | some k_ => exact ⟨k_, rfl⟩
        have hb52 := (nx_lt e52).1
        rw [e52]
        refine J_aload_n dX7_consider_56 rfl rfl ?_
        refine J_iload_n dX7_consider_57 rfl rfl ?_
        refine J_iload_n dX7_consider_58 rfl rfl ?_
        refine K_callV dX7_consider_59 YX4_letsIn kX7_81 (rc_of hO rfl) (c_X4_letsIn hL2 (show t < 32 by omega) (show k52 < 32 by omega)) rfl rfl (Nat.le_of_ble_eq_true rfl) (by decide) ?_
        refine J_if_eq (tgt := 74) dX7_consider_62 (by decide) (fun h62 => ?_) (fun h62 => ?_)
        · skip
          have e62 : decide (tAt S k52 = none ∧ (hOf S k52 = none ∨ hOf S k52 = some t)) = false := b2i_eq.mp h62
          refine J_aload_n dX7_consider_74 rfl rfl ?_
          refine J_getfield dX7_consider_75 fX7_88 hO rfl ?_
          refine J_iload_n dX7_consider_78 rfl rfl ?_
          refine J_dup2 dX7_consider_79 rfl rfl ?_
          refine K_iald (v := sWa S t) dX7_consider_80 k8 (by omega) (by decide) (htr _ (by omega)).2.2.2.2.2 ?_
          refine J_iconst (v := nI 1) dX7_consider_81 (by decide) ?_
          refine K_iadd (v := sWa S t + 1) dX7_consider_82 rfl ?_
          refine K_iast dX7_consider_83 k8 (by omega) (by decide) (fun w1 u1 => ?_)
          have hO := (u1.2.1 _ (by omega)).trans hO
          have k1 := (u1.2.1 _ (by omega)).trans k1
          have k2 := (u1.2.1 _ (by omega)).trans k2
          have k3 := (u1.2.1 _ (by omega)).trans k3
          have k4 := (u1.2.1 _ (by omega)).trans k4
          have k5 := (u1.2.1 _ (by omega)).trans k5
          have k6 := (u1.2.1 _ (by omega)).trans k6
          have k7 := (u1.2.1 _ (by omega)).trans k7
          have k8 := u1.1
          have rO := (u1.2.1 _ (by omega)).trans rO
          have t5 := (u1.2.1 _ (by omega)).trans t5
          have t6 := (u1.2.1 _ (by omega)).trans t6
          have tO := (u1.2.1 _ (by omega)).trans tO
          exact J_return dX7_consider_84 rfl (RP_i ⟨rfl, (by rw [show act S t = sWait S t from by unfold act; rw [if_neg (by rw [e16]; decide), if_neg (by omega), e52]; simp only; rw [if_neg (of_decide_eq_false e62)]]; exact ⟨_, _, _, _, _, _, _, _, _, _, _, hO, ⟨k1, k2, k3, k4, k5, k6, k7, k8⟩, ⟨bc, ba, bo⟩, hlen, hlk, (fun j ht => ⟨(htr j ht).1, (htr j ht).2.1, (htr j ht).2.2.1, (htr j ht).2.2.2.1, (htr j ht).2.2.2.2.1, up_F (fun x => x) rfl (fun e => (htr j ht).2.2.2.2.2)⟩), hwf⟩), (hT2.fr ((Fr.rf _ a (a + 9)).up u1 (by omega) (by omega)) (by omega)), (((F2.rf _ _ _).fr hF46 (by omega)).up u1 (by omega))⟩)
        · skip
          have e62 : decide (tAt S k52 = none ∧ (hOf S k52 = none ∨ hOf S k52 = some t)) = true := b2i_ne.mp h62
          refine J_aload_n dX7_consider_65 rfl rfl ?_
          refine J_iload_n dX7_consider_66 rfl rfl ?_
          refine J_iload_n dX7_consider_67 rfl rfl ?_
          refine K_callVp dX7_consider_68 YX4_moveTrain kX7_84 (rc_of hO rfl) (c_X4_moveTrain hL2 ht hb52 (of_decide_eq_true e62).1) rfl rfl (Nat.le_of_ble_eq_true rfl) (by decide) (fun v68 w68 q68 => ?_)
          obtain ⟨rfl, hL3, hF68⟩ := q68
          refine J_goto (tgt := 84) dX7_consider_71 (by decide) ?_
          exact J_return dX7_consider_84 rfl (RP_i ⟨rfl, (by rw [show act S t = sMove S t k52 from by unfold act; rw [if_neg (by rw [e16]; decide), if_neg (by omega), e52]; simp only; rw [if_pos (of_decide_eq_true e62)]]; exact hL3), (hT2.fr hF68 (by omega)), (((F2.rf _ _ _).fr hF46 (by omega)).fr hF68 (by omega))⟩)
      · skip
        have e52 : nx S t = none := (oI_m1 (nx_b hwf)).mp h52
        exact J_return dX7_consider_55 rfl (RP_i ⟨rfl, (by rw [show act S t = S from by unfold act; rw [if_neg (by rw [e16]; decide), if_neg (by omega), e52]]; exact hL2), hT2, ((F2.rf _ _ _).fr hF46 (by omega))⟩)
    · skip
      have h26 := mt (nI_leI (b := 0) (by omega) (by omega)).mpr h26
      refine J_aload_n dX7_consider_29 rfl rfl ?_
      refine J_getfield dX7_consider_30 fX7_74 hO rfl ?_
      refine J_iload_n dX7_consider_33 rfl rfl ?_
      refine J_dup2 dX7_consider_34 rfl rfl ?_
      have q35a := hwf.2.2.2.2.1 t (by omega)
      refine K_iald (v := nI (sRe S t)) dX7_consider_35 k5 (by omega) (by decide) (htr _ (by omega)).2.2.1 ?_
      refine J_iconst (v := nI 1) dX7_consider_36 (by decide) ?_
      refine K_isub (v := nI ((sRe S t) - 1)) dX7_consider_37 (nI_sub (by omega)) ?_
      refine K_iast dX7_consider_38 k5 (by omega) (by decide) (fun w1 u1 => ?_)
      have hO := (u1.2.1 _ (by omega)).trans hO
      have k1 := (u1.2.1 _ (by omega)).trans k1
      have k2 := (u1.2.1 _ (by omega)).trans k2
      have k3 := (u1.2.1 _ (by omega)).trans k3
      have k4 := (u1.2.1 _ (by omega)).trans k4
      have k5 := u1.1
      have k6 := (u1.2.1 _ (by omega)).trans k6
      have k7 := (u1.2.1 _ (by omega)).trans k7
      have k8 := (u1.2.1 _ (by omega)).trans k8
      have r1 := (u1.2.1 _ (by omega)).trans r1
      have r2 := (u1.2.1 _ (by omega)).trans r2
      have r3 := (u1.2.1 _ (by omega)).trans r3
      have rO := (u1.2.1 _ (by omega)).trans rO
      have t5 := (u1.2.1 _ (by omega)).trans t5
      have t6 := (u1.2.1 _ (by omega)).trans t6
      have tO := (u1.2.1 _ (by omega)).trans tO
      exact J_return dX7_consider_39 rfl (RP_i ⟨rfl, (by rw [show act S t = sLess S t from by unfold act; rw [if_neg (by rw [e16]; decide), if_pos (by omega)]]; exact ⟨_, _, _, _, _, _, _, _, _, _, _, hO, ⟨k1, k2, k3, k4, k5, k6, k7, k8⟩, ⟨bc, ba, bo⟩, hlen, hlk, (fun j ht => ⟨(htr j ht).1, (htr j ht).2.1, up_F nI rfl (fun e => (htr j ht).2.2.1), (htr j ht).2.2.2.1, (htr j ht).2.2.2.2.1, (htr j ht).2.2.2.2.2⟩), (wf_less hwf t)⟩), (hT.fr ((Fr.rf _ a (a + 9)).up u1 (by omega) (by omega)) (by omega)), ((F2.rf _ _ _).up u1 (by omega))⟩)
  · skip
    have e16 : sOf S t = true := b2i_ne.mp h16
    exact J_return dX7_consider_19 rfl (RP_i ⟨rfl, (by rw [show act S t = S from by unfold act; rw [if_pos e16]]; exact hL), hT, (F2.rf _ _ _)⟩)

theorem MC_post {d : Nat} {mi : MI} {kb sb : Nat} {av : List Value} {w : Wd} {Q Q' : Po} (h : MC d mi kb sb av w Q) (e : Q = Q') : MC d mi kb sb av w Q' := e ▸ h
end JTICKS

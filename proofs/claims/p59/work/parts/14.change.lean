/-! THE LAYOUT: what changes it -/
section JCHANGE
theorem isS_no {α : Type} {o : Option α} (h : o.isSome = false) : o = none := by cases o with | none => rfl | some _ => cases h
theorem isS_yes {α : Type} {o : Option α} (h : o.isSome = true) : ∃ k, o = some k := by cases o with | none => cases h | some k => exact ⟨k, rfl⟩
theorem up_F {α : Type} (F : α → Int32) {f : Nat → Int32} {g : Nat → α} {k j : Nat} {v : α} {x : Int32} (hx : x = F v) (h : j ≠ k → f j = F (g j)) : va_up f k x j = F (va_up g k v j) := by
  by_cases e : j = k
  · subst e; rw [up_s, up_s, hx]
  · rw [up_n _ _ e, up_n _ _ e, h e]
theorem up_R {α β : Type} (R : α → β → Prop) {f : Nat → α} {g : Nat → β} {k j : Nat} {x : α} {v : β} (hx : R x v) (h : j ≠ k → R (f j) (g j)) : R (va_up f k x j) (va_up g k v j) := by
  by_cases e : j = k
  · subst e; rw [up_s, up_s]; exact hx
  · rw [up_n _ _ e, up_n _ _ e]; exact h e
theorem bits_same {x : Int32} {p : Nat → Bool} {k : Nat} {v : Bool} (h : bits x p) (e : p k = v) : bits x (va_up p k v) := bits_to h fun j _ => by
  by_cases q : j = k
  · subst q; rw [up_s, e]
  · rw [up_n _ _ q]
theorem K_copyi {d : Nat} {mi : MI} {pc : Nat} {lc : List (Option Value)} {st : List Value} {w : Wd} {kb sb : Nat} {Q : Po} {idx a b n : Nat} {f g : Nat → Int32} (hd : decode mi.2.1 pc = .ok (.invokestatic idx, 3)) (hL : Cond.methodLink mi.1.cls idx arraycopyName ∈ AL ∧ Cond.native arraycopyName ∈ AL ∧ Cond.static arraycopyName ∈ AL ∧ Cond.initialized "java/lang/System" ∈ AL) (ha : w.1 a = .inl (0, n, .inl f)) (hb : w.1 b = .inl (0, n, .inl g)) (hn : n < 2 ^ 31) (hcat : (st.map fun v => v.category).sum ≤ 8) (hdd : 2 ≤ d)
    (kk : ∀ (w' : Wd) (h : Nat → Int32), (∀ j, j < n → h j = f j) → Up w w' b (.inl (0, n, .inl h)) → J d mi (pc + 3) lc st w' kb sb Q) : J d mi pc lc (.int (nI n) :: .int (nI 0) :: .ref b :: .int (nI 0) :: .ref a :: st) w kb sb Q :=
  J_copyi hd hL ha hb (nI_pos (by omega)) (nI_pos (by omega)) (nI_pos hn) (by rw [nI_clamp hn, nI_clamp (by omega)]; omega) (by rw [nI_clamp hn, nI_clamp (by omega)]; omega) hcat hdd
    (kk _ _ (fun j hj => by rw [nI_clamp hn, nI_clamp (by omega)]; exact sb_cpy0 hj) (Up_up _ _ _))
theorem c_X4_seatCat {w : Wd} {a : Nat} {S : St} (hL : RepC w a S) (x : Int32) : MC 3 mX4_seatCat 0 0 [.ref a, .int x] w (RP (PS w a (oCat S x))) := by
  have hL_ := hL
  obtain ⟨x4, x5, x6, f1, f2, f3, f4, f5, f6, f7, f8, hO, ⟨k1, k2, k3, k4, k5, k6, k7, k8⟩, ⟨bc, ba, bo⟩, hlen, hlk, htr, hwf⟩ := hL_
  have hnb := hwf.nb
  have hnt := hwf.nt
  refine MC_j pnX4 rfl rfl rfl (Or.inr (fun E w h => RP_no E w h)) ?_
  show J 3 mX4_seatCat 0 [some (.ref a), some (.int x)] [] w 0 0 _
  refine J_aload_n dX4_seatCat_0 rfl rfl ?_
  refine J_iload_n dX4_seatCat_1 rfl rfl ?_
  refine K_callV dX4_seatCat_2 YX4_isBlock kX4_75 (rc_of hO rfl) (c_X4_isBlock hL _) rfl rfl (Nat.le_of_ble_eq_true rfl) (by decide) ?_
  refine J_if_ne (tgt := 11) dX4_seatCat_5 (by decide) (fun h5 => ?_) (fun h5 => ?_)
  · skip
    have e5 : (vi (sNb S) x).isSome = true := b2i_ne.mp h5
    obtain ⟨i, e5⟩ := isS_yes e5
    obtain ⟨hi, rfl⟩ := vi_some (by omega) e5
    refine J_aload_n dX4_seatCat_11 rfl rfl ?_
    refine J_getfield dX4_seatCat_12 fX4_27 hO rfl ?_
    refine J_iload_n dX4_seatCat_15 rfl rfl ?_
    refine K_callSN dX4_seatCat_16 YX8_has kX4_64 (c_has w ba (by omega)) rfl rfl (Nat.le_of_ble_eq_true rfl) (by decide) ?_
    refine J_if_eq (tgt := 25) dX4_seatCat_19 (by decide) (fun h19 => ?_) (fun h19 => ?_)
    · skip
      have e19 : sCa S i = false := b2i_eq.mp h19
      refine J_aload_n dX4_seatCat_25 rfl rfl ?_
      refine J_iload_n dX4_seatCat_26 rfl rfl ?_
      refine K_callV dX4_seatCat_27 YX4_trainAt kX4_68 (rc_of hO rfl) (c_X4_trainAt hL (by omega)) rfl rfl (Nat.le_of_ble_eq_true rfl) (by decide) ?_
      refine J_iconst (v := (-1)) dX4_seatCat_30 (by decide) ?_
      refine J_icmp_eq (tgt := 37) dX4_seatCat_31 (by decide) (fun h31 => ?_) (fun h31 => ?_)
      · skip
        have e31 : tAt S i = none := (oI_m1 (tAt_b hL.wf)).mp h31
        refine J_aload_n dX4_seatCat_37 rfl rfl ?_
        refine J_dup dX4_seatCat_38 rfl ?_
        refine J_getfield dX4_seatCat_39 fX4_27 hO rfl ?_
        refine J_iconst (v := nI 1) dX4_seatCat_42 (by decide) ?_
        refine J_iload_n dX4_seatCat_43 rfl rfl ?_
        refine K_ishl (v := ((1 : Int32) <<< (nI i &&& 31))) dX4_seatCat_44 rfl ?_
        refine K_ior (v := (x5 ||| ((1 : Int32) <<< (nI i &&& 31)))) dX4_seatCat_45 rfl ?_
        refine K_putI dX4_seatCat_46 fX4_27 (Or.inl rfl) hO (Nat.le_of_ble_eq_true rfl) (fun w1 u1 => ?_)
        have hO := u1.1
        have k1 := (u1.2.1 _ (by omega)).trans k1
        have k2 := (u1.2.1 _ (by omega)).trans k2
        have k3 := (u1.2.1 _ (by omega)).trans k3
        have k4 := (u1.2.1 _ (by omega)).trans k4
        have k5 := (u1.2.1 _ (by omega)).trans k5
        have k6 := (u1.2.1 _ (by omega)).trans k6
        have k7 := (u1.2.1 _ (by omega)).trans k7
        have k8 := (u1.2.1 _ (by omega)).trans k8
        have hO : w1.1 a = .inr (4, [.int (nI (sNb S)), .int (nI (sNt S)), .int (sTk S), .int (sAr S), .int x4, .int ((x5 ||| ((1 : Int32) <<< (nI i &&& 31)))), .int x6, .ref (a + 1), .ref (a + 2), .ref (a + 3), .ref (a + 4), .ref (a + 5), .ref (a + 6), .ref (a + 7), .ref (a + 8)]) := hO
        refine J_aload_n dX4_seatCat_49 rfl rfl ?_
        refine J_getfield dX4_seatCat_50 fX4_27 hO rfl ?_
        refine K_callS dX4_seatCat_53 YJ6_bitCount_0f7a4 kX4_86 (c_bitCount w1 (bits_set ba (by omega)) hnb (fun j hj => by rw [up_n _ _ (by omega)]; exact (hwf.2.2.1 j hj).2)) rfl rfl (Nat.le_of_ble_eq_true rfl) (by decide) ?_
        exact J_ireturn dX4_seatCat_56 rfl rfl (PS_ok (S := S) (S' := sCat S i true) (by simp [oCat, e5, e19, e31]) ⟨_, _, _, _, _, _, _, _, _, _, _, hO, ⟨k1, k2, k3, k4, k5, k6, k7, k8⟩, ⟨bc, (bits_set ba (by omega)), bo⟩, hlen, hlk, htr, (wf_cat hwf hi true)⟩ ((Fr.rf _ _ _).up u1 (by omega) (by omega)))
      · skip
        obtain ⟨k31, e31⟩ : ∃ k_, tAt S i = some k_ := by
          cases q : tAt S i with
          | none => exact absurd ((oI_m1 (tAt_b hL.wf)).mpr q) h31
          | some k_ => exact ⟨k_, rfl⟩
        refine J_bipush (v := (-14)) dX4_seatCat_34 (by decide) ?_
        exact J_ireturn dX4_seatCat_36 rfl rfl (PS_no hL (c := 3) (by simp [oCat, e5, e19, e31]) rfl)
    · skip
      have e19 : sCa S i = true := b2i_ne.mp h19
      refine J_bipush (v := (-13)) dX4_seatCat_22 (by decide) ?_
      exact J_ireturn dX4_seatCat_24 rfl rfl (PS_no hL (c := 2) (by simp [oCat, e5, e19]) rfl)
  · skip
    have e5 : (vi (sNb S) x).isSome = false := b2i_eq.mp h5
    have e5 := isS_no e5
    refine J_bipush (v := (-11)) dX4_seatCat_8 (by decide) ?_
    exact J_ireturn dX4_seatCat_10 rfl rfl (PS_no hL (c := 0) (by simp [oCat, e5]) rfl)

theorem c_X4_liftCat {w : Wd} {a : Nat} {S : St} (hL : RepC w a S) (x : Int32) : MC 3 mX4_liftCat 0 0 [.ref a, .int x] w (RP (PS w a (oShoo S x))) := by
  have hL_ := hL
  obtain ⟨x4, x5, x6, f1, f2, f3, f4, f5, f6, f7, f8, hO, ⟨k1, k2, k3, k4, k5, k6, k7, k8⟩, ⟨bc, ba, bo⟩, hlen, hlk, htr, hwf⟩ := hL_
  have hnb := hwf.nb
  have hnt := hwf.nt
  refine MC_j pnX4 rfl rfl rfl (Or.inr (fun E w h => RP_no E w h)) ?_
  show J 3 mX4_liftCat 0 [some (.ref a), some (.int x)] [] w 0 0 _
  refine J_aload_n dX4_liftCat_0 rfl rfl ?_
  refine J_iload_n dX4_liftCat_1 rfl rfl ?_
  refine K_callV dX4_liftCat_2 YX4_isBlock kX4_75 (rc_of hO rfl) (c_X4_isBlock hL _) rfl rfl (Nat.le_of_ble_eq_true rfl) (by decide) ?_
  refine J_if_ne (tgt := 11) dX4_liftCat_5 (by decide) (fun h5 => ?_) (fun h5 => ?_)
  · skip
    have e5 : (vi (sNb S) x).isSome = true := b2i_ne.mp h5
    obtain ⟨i, e5⟩ := isS_yes e5
    obtain ⟨hi, rfl⟩ := vi_some (by omega) e5
    refine J_aload_n dX4_liftCat_11 rfl rfl ?_
    refine J_getfield dX4_liftCat_12 fX4_27 hO rfl ?_
    refine J_iload_n dX4_liftCat_15 rfl rfl ?_
    refine K_callSN dX4_liftCat_16 YX8_has kX4_64 (c_has w ba (by omega)) rfl rfl (Nat.le_of_ble_eq_true rfl) (by decide) ?_
    refine J_if_ne (tgt := 25) dX4_liftCat_19 (by decide) (fun h19 => ?_) (fun h19 => ?_)
    · skip
      have e19 : sCa S i = true := b2i_ne.mp h19
      refine J_aload_n dX4_liftCat_25 rfl rfl ?_
      refine J_dup dX4_liftCat_26 rfl ?_
      refine J_getfield dX4_liftCat_27 fX4_27 hO rfl ?_
      refine J_iconst (v := nI 1) dX4_liftCat_30 (by decide) ?_
      refine J_iload_n dX4_liftCat_31 rfl rfl ?_
      refine K_ishl (v := ((1 : Int32) <<< (nI i &&& 31))) dX4_liftCat_32 rfl ?_
      refine J_iconst (v := (-1)) dX4_liftCat_33 (by decide) ?_
      refine K_ixor (v := (((1 : Int32) <<< (nI i &&& 31)) ^^^ (-1))) dX4_liftCat_34 rfl ?_
      refine K_iand (v := (x5 &&& (((1 : Int32) <<< (nI i &&& 31)) ^^^ (-1)))) dX4_liftCat_35 rfl ?_
      refine K_putI dX4_liftCat_36 fX4_27 (Or.inl rfl) hO (Nat.le_of_ble_eq_true rfl) (fun w1 u1 => ?_)
      have hO := u1.1
      have k1 := (u1.2.1 _ (by omega)).trans k1
      have k2 := (u1.2.1 _ (by omega)).trans k2
      have k3 := (u1.2.1 _ (by omega)).trans k3
      have k4 := (u1.2.1 _ (by omega)).trans k4
      have k5 := (u1.2.1 _ (by omega)).trans k5
      have k6 := (u1.2.1 _ (by omega)).trans k6
      have k7 := (u1.2.1 _ (by omega)).trans k7
      have k8 := (u1.2.1 _ (by omega)).trans k8
      have hO : w1.1 a = .inr (4, [.int (nI (sNb S)), .int (nI (sNt S)), .int (sTk S), .int (sAr S), .int x4, .int ((x5 &&& (((1 : Int32) <<< (nI i &&& 31)) ^^^ (-1)))), .int x6, .ref (a + 1), .ref (a + 2), .ref (a + 3), .ref (a + 4), .ref (a + 5), .ref (a + 6), .ref (a + 7), .ref (a + 8)]) := hO
      refine J_aload_n dX4_liftCat_39 rfl rfl ?_
      refine J_getfield dX4_liftCat_40 fX4_27 hO rfl ?_
      refine K_callS dX4_liftCat_43 YJ6_bitCount_0f7a4 kX4_86 (c_bitCount w1 (bits_clr ba (by omega)) hnb (fun j hj => by rw [up_n _ _ (by omega)]; exact (hwf.2.2.1 j hj).2)) rfl rfl (Nat.le_of_ble_eq_true rfl) (by decide) ?_
      exact J_ireturn dX4_liftCat_46 rfl rfl (PS_ok (S := S) (S' := sCat S i false) (by simp [oShoo, e5, e19]) ⟨_, _, _, _, _, _, _, _, _, _, _, hO, ⟨k1, k2, k3, k4, k5, k6, k7, k8⟩, ⟨bc, (bits_clr ba (by omega)), bo⟩, hlen, hlk, htr, (wf_cat hwf hi false)⟩ ((Fr.rf _ _ _).up u1 (by omega) (by omega)))
    · skip
      have e19 : sCa S i = false := b2i_eq.mp h19
      refine J_bipush (v := (-15)) dX4_liftCat_22 (by decide) ?_
      exact J_ireturn dX4_liftCat_24 rfl rfl (PS_no hL (c := 4) (by simp [oShoo, e5, e19]) rfl)
  · skip
    have e5 : (vi (sNb S) x).isSome = false := b2i_eq.mp h5
    have e5 := isS_no e5
    refine J_bipush (v := (-11)) dX4_liftCat_8 (by decide) ?_
    exact J_ireturn dX4_liftCat_10 rfl rfl (PS_no hL (c := 0) (by simp [oShoo, e5]) rfl)

theorem c_X4_placeBlock {w : Wd} {a : Nat} {S : St} (hL : RepC w a S) (x : Int32) (c : Bool) : MC 2 mX4_placeBlock 0 0 [.ref a, .int x, .int (b2i c)] w (RP (PS w a (oAdd S x c))) := by
  have hL_ := hL
  obtain ⟨x4, x5, x6, f1, f2, f3, f4, f5, f6, f7, f8, hO, ⟨k1, k2, k3, k4, k5, k6, k7, k8⟩, ⟨bc, ba, bo⟩, hlen, hlk, htr, hwf⟩ := hL_
  have hnb := hwf.nb
  have hnt := hwf.nt
  refine MC_j pnX4 rfl rfl rfl (Or.inr (fun E w h => RP_no E w h)) ?_
  show J 2 mX4_placeBlock 0 [some (.ref a), some (.int x), some (.int (b2i c)), none] [] w 0 0 _
  refine J_iload_n dX4_placeBlock_0 rfl rfl ?_
  refine J_iconst (v := nI 1) dX4_placeBlock_1 (by decide) ?_
  refine J_icmp_lt (tgt := 11) dX4_placeBlock_2 (by decide) (fun h2 => ?_) (fun h2 => ?_)
  · skip
    have ev := v19_none (Or.inl h2)
    refine J_bipush (v := (-12)) dX4_placeBlock_11 (by decide) ?_
    exact J_ireturn dX4_placeBlock_13 rfl rfl (PS_no hL (c := 1) (by simp [oAdd, ev]) rfl)
  · skip
    refine J_iload_n dX4_placeBlock_5 rfl rfl ?_
    refine J_bipush (v := nI 9) dX4_placeBlock_6 (by decide) ?_
    refine J_icmp_le (tgt := 14) dX4_placeBlock_8 (by decide) (fun h8 => ?_) (fun h8 => ?_)
    · skip
      obtain ⟨k, ev⟩ := v19_is h2 (Int32.not_lt.mpr h8)
      obtain ⟨hk1, hk2, rfl⟩ := v19_some ev
      refine J_aload_n dX4_placeBlock_14 rfl rfl ?_
      refine J_getfield dX4_placeBlock_15 fX4_9 hO rfl ?_
      refine J_bipush (v := nI 14) dX4_placeBlock_18 (by decide) ?_
      refine J_icmp_lt (tgt := 26) dX4_placeBlock_20 (by decide) (fun h20 => ?_) (fun h20 => ?_)
      · skip
        have h20 := (nI_ltI (by omega) (by omega)).mp h20
        have e20 : ¬ sNb S = 14 := by omega
        refine J_aload_n dX4_placeBlock_26 rfl rfl ?_
        refine J_getfield dX4_placeBlock_27 fX4_9 hO rfl ?_
        refine J_istore_n dX4_placeBlock_30 rfl (by decide) rfl ?_
        refine J_aload_n dX4_placeBlock_31 rfl rfl ?_
        refine J_getfield dX4_placeBlock_32 fX4_33 hO rfl ?_
        refine J_iload_n dX4_placeBlock_35 rfl rfl ?_
        refine J_iload_n dX4_placeBlock_36 rfl rfl ?_
        refine K_iast dX4_placeBlock_37 k1 (by omega) (by decide) (fun w1 u1 => ?_)
        have hO := (u1.2.1 _ (by omega)).trans hO
        have k1 := u1.1
        have k2 := (u1.2.1 _ (by omega)).trans k2
        have k3 := (u1.2.1 _ (by omega)).trans k3
        have k4 := (u1.2.1 _ (by omega)).trans k4
        have k5 := (u1.2.1 _ (by omega)).trans k5
        have k6 := (u1.2.1 _ (by omega)).trans k6
        have k7 := (u1.2.1 _ (by omega)).trans k7
        have k8 := (u1.2.1 _ (by omega)).trans k8
        refine J_iload_n dX4_placeBlock_38 rfl rfl ?_
        refine J_if_eq (tgt := 54) dX4_placeBlock_39 (by decide) (fun h39 => ?_) (fun h39 => ?_)
        · skip
          have e39 : c = false := b2i_eq.mp h39
          subst e39
          refine J_aload_n dX4_placeBlock_54 rfl rfl ?_
          refine J_dup dX4_placeBlock_55 rfl ?_
          refine J_getfield dX4_placeBlock_56 fX4_9 hO rfl ?_
          refine J_iconst (v := nI 1) dX4_placeBlock_59 (by decide) ?_
          refine K_iadd (v := nI (sNb S + 1)) dX4_placeBlock_60 (nI_add _ _) ?_
          refine K_putI dX4_placeBlock_61 fX4_9 (Or.inl rfl) hO (Nat.le_of_ble_eq_true rfl) (fun w2 u2 => ?_)
          have hO := u2.1
          have k1 := (u2.2.1 _ (by omega)).trans k1
          have k2 := (u2.2.1 _ (by omega)).trans k2
          have k3 := (u2.2.1 _ (by omega)).trans k3
          have k4 := (u2.2.1 _ (by omega)).trans k4
          have k5 := (u2.2.1 _ (by omega)).trans k5
          have k6 := (u2.2.1 _ (by omega)).trans k6
          have k7 := (u2.2.1 _ (by omega)).trans k7
          have k8 := (u2.2.1 _ (by omega)).trans k8
          have hO : w2.1 a = .inr (4, [.int (nI (sNb S + 1)), .int (nI (sNt S)), .int (sTk S), .int (sAr S), .int x4, .int x5, .int x6, .ref (a + 1), .ref (a + 2), .ref (a + 3), .ref (a + 4), .ref (a + 5), .ref (a + 6), .ref (a + 7), .ref (a + 8)]) := hO
          refine J_iload_n dX4_placeBlock_64 rfl rfl ?_
          exact J_ireturn dX4_placeBlock_65 rfl rfl (PS_ok (S := S) (S' := sAdd S k _) (by simp [oAdd, ev, e20]) ⟨_, _, _, _, _, _, _, _, _, _, _, hO, ⟨k1, k2, k3, k4, k5, k6, k7, k8⟩, ⟨(bits_same bc (hwf.2.2.1 _ (Nat.le_refl _)).1), ba, bo⟩, (fun b hb => up_F nI rfl (fun e => hlen b (by have hb : b < sNb S + 1 := hb; omega))), hlk, htr, (wf_add hwf (by omega) hk1 hk2 _)⟩ (((Fr.rf _ _ _).up u1 (by omega) (by omega)).up u2 (by omega) (by omega)))
        · skip
          have e39 : c = true := b2i_ne.mp h39
          subst e39
          refine J_aload_n dX4_placeBlock_42 rfl rfl ?_
          refine J_dup dX4_placeBlock_43 rfl ?_
          refine J_getfield dX4_placeBlock_44 fX4_24 hO rfl ?_
          refine J_iconst (v := nI 1) dX4_placeBlock_47 (by decide) ?_
          refine J_iload_n dX4_placeBlock_48 rfl rfl ?_
          refine K_ishl (v := ((1 : Int32) <<< (nI (sNb S) &&& 31))) dX4_placeBlock_49 rfl ?_
          refine K_ior (v := (x4 ||| ((1 : Int32) <<< (nI (sNb S) &&& 31)))) dX4_placeBlock_50 rfl ?_
          refine K_putI dX4_placeBlock_51 fX4_24 (Or.inl rfl) hO (Nat.le_of_ble_eq_true rfl) (fun w2 u2 => ?_)
          have hO := u2.1
          have k1 := (u2.2.1 _ (by omega)).trans k1
          have k2 := (u2.2.1 _ (by omega)).trans k2
          have k3 := (u2.2.1 _ (by omega)).trans k3
          have k4 := (u2.2.1 _ (by omega)).trans k4
          have k5 := (u2.2.1 _ (by omega)).trans k5
          have k6 := (u2.2.1 _ (by omega)).trans k6
          have k7 := (u2.2.1 _ (by omega)).trans k7
          have k8 := (u2.2.1 _ (by omega)).trans k8
          have hO : w2.1 a = .inr (4, [.int (nI (sNb S)), .int (nI (sNt S)), .int (sTk S), .int (sAr S), .int ((x4 ||| ((1 : Int32) <<< (nI (sNb S) &&& 31)))), .int x5, .int x6, .ref (a + 1), .ref (a + 2), .ref (a + 3), .ref (a + 4), .ref (a + 5), .ref (a + 6), .ref (a + 7), .ref (a + 8)]) := hO
          refine J_aload_n dX4_placeBlock_54 rfl rfl ?_
          refine J_dup dX4_placeBlock_55 rfl ?_
          refine J_getfield dX4_placeBlock_56 fX4_9 hO rfl ?_
          refine J_iconst (v := nI 1) dX4_placeBlock_59 (by decide) ?_
          refine K_iadd (v := nI (sNb S + 1)) dX4_placeBlock_60 (nI_add _ _) ?_
          refine K_putI dX4_placeBlock_61 fX4_9 (Or.inl rfl) hO (Nat.le_of_ble_eq_true rfl) (fun w3 u3 => ?_)
          have hO := u3.1
          have k1 := (u3.2.1 _ (by omega)).trans k1
          have k2 := (u3.2.1 _ (by omega)).trans k2
          have k3 := (u3.2.1 _ (by omega)).trans k3
          have k4 := (u3.2.1 _ (by omega)).trans k4
          have k5 := (u3.2.1 _ (by omega)).trans k5
          have k6 := (u3.2.1 _ (by omega)).trans k6
          have k7 := (u3.2.1 _ (by omega)).trans k7
          have k8 := (u3.2.1 _ (by omega)).trans k8
          have hO : w3.1 a = .inr (4, [.int (nI (sNb S + 1)), .int (nI (sNt S)), .int (sTk S), .int (sAr S), .int ((x4 ||| ((1 : Int32) <<< (nI (sNb S) &&& 31)))), .int x5, .int x6, .ref (a + 1), .ref (a + 2), .ref (a + 3), .ref (a + 4), .ref (a + 5), .ref (a + 6), .ref (a + 7), .ref (a + 8)]) := hO
          refine J_iload_n dX4_placeBlock_64 rfl rfl ?_
          exact J_ireturn dX4_placeBlock_65 rfl rfl (PS_ok (S := S) (S' := sAdd S k _) (by simp [oAdd, ev, e20]) ⟨_, _, _, _, _, _, _, _, _, _, _, hO, ⟨k1, k2, k3, k4, k5, k6, k7, k8⟩, ⟨(bits_set bc (by omega)), ba, bo⟩, (fun b hb => up_F nI rfl (fun e => hlen b (by have hb : b < sNb S + 1 := hb; omega))), hlk, htr, (wf_add hwf (by omega) hk1 hk2 _)⟩ ((((Fr.rf _ _ _).up u1 (by omega) (by omega)).up u2 (by omega) (by omega)).up u3 (by omega) (by omega)))
      · skip
        have h20 := mt (nI_ltI (by omega) (by omega)).mpr h20
        have e20 : sNb S = 14 := by omega
        refine J_bipush (v := (-13)) dX4_placeBlock_23 (by decide) ?_
        exact J_ireturn dX4_placeBlock_25 rfl rfl (PS_no hL (c := 2) (by simp [oAdd, ev, e20]) rfl)
    · skip
      have ev := v19_none (Or.inr (Int32.not_le.mp h8))
      refine J_bipush (v := (-12)) dX4_placeBlock_11 (by decide) ?_
      exact J_ireturn dX4_placeBlock_13 rfl rfl (PS_no hL (c := 1) (by simp [oAdd, ev]) rfl)

theorem c_X4_join {w : Wd} {a : Nat} {S : St} (hL : RepC w a S) (x y : Int32) : MC 4 mX4_join 0 0 [.ref a, .int x, .int y] w (RP (PS w a (oJoin S x y))) := by
  have hL_ := hL
  obtain ⟨x4, x5, x6, f1, f2, f3, f4, f5, f6, f7, f8, hO, ⟨k1, k2, k3, k4, k5, k6, k7, k8⟩, ⟨bc, ba, bo⟩, hlen, hlk, htr, hwf⟩ := hL_
  have hnb := hwf.nb
  have hnt := hwf.nt
  refine MC_j pnX4 rfl rfl rfl (Or.inr (fun E w h => RP_no E w h)) ?_
  show J 4 mX4_join 0 [some (.ref a), some (.int x), some (.int y)] [] w 0 0 _
  refine J_aload_n dX4_join_0 rfl rfl ?_
  refine J_iload_n dX4_join_1 rfl rfl ?_
  refine K_callV dX4_join_2 YX4_isBlock kX4_75 (rc_of hO rfl) (c_X4_isBlock hL _) rfl rfl (Nat.le_of_ble_eq_true rfl) (by decide) ?_
  refine J_if_eq (tgt := 16) dX4_join_5 (by decide) (fun h5 => ?_) (fun h5 => ?_)
  · skip
    have e5 : (vi (sNb S) x).isSome = false := b2i_eq.mp h5
    have e5 := isS_no e5
    refine J_bipush (v := (-11)) dX4_join_16 (by decide) ?_
    exact J_ireturn dX4_join_18 rfl rfl (PS_no hL (c := 0) (by simp [oJoin, e5]) rfl)
  · skip
    have e5 : (vi (sNb S) x).isSome = true := b2i_ne.mp h5
    obtain ⟨i, e5⟩ := isS_yes e5
    obtain ⟨hi, rfl⟩ := vi_some (by omega) e5
    refine J_aload_n dX4_join_8 rfl rfl ?_
    refine J_iload_n dX4_join_9 rfl rfl ?_
    refine K_callV dX4_join_10 YX4_isBlock kX4_75 (rc_of hO rfl) (c_X4_isBlock hL _) rfl rfl (Nat.le_of_ble_eq_true rfl) (by decide) ?_
    refine J_if_ne (tgt := 19) dX4_join_13 (by decide) (fun h13 => ?_) (fun h13 => ?_)
    · skip
      have e13 : (vi (sNb S) y).isSome = true := b2i_ne.mp h13
      obtain ⟨j, e13⟩ := isS_yes e13
      obtain ⟨hj, rfl⟩ := vi_some (by omega) e13
      refine J_iload_n dX4_join_19 rfl rfl ?_
      refine J_iload_n dX4_join_20 rfl rfl ?_
      refine J_icmp_ne (tgt := 27) dX4_join_21 (by decide) (fun h21 => ?_) (fun h21 => ?_)
      · skip
        have h21 := mt (nI_eq (by omega) (by omega)).mpr h21
        have hij := h21
        refine J_aload_n dX4_join_27 rfl rfl ?_
        refine J_iload_n dX4_join_28 rfl rfl ?_
        refine J_iload_n dX4_join_29 rfl rfl ?_
        refine K_callV dX4_join_30 YX4_isJoined kX4_79 (rc_of hO rfl) (c_X4_isJoined hL (by omega) (by omega)) rfl rfl (Nat.le_of_ble_eq_true rfl) (by decide) ?_
        refine J_if_eq (tgt := 39) dX4_join_33 (by decide) (fun h33 => ?_) (fun h33 => ?_)
        · skip
          have e33 : sLk S i j = false := b2i_eq.mp h33
          refine J_aload_n dX4_join_39 rfl rfl ?_
          refine J_getfield dX4_join_40 fX4_37 hO rfl ?_
          refine J_iload_n dX4_join_43 rfl rfl ?_
          refine J_dup2 dX4_join_44 rfl rfl ?_
          refine K_iald dX4_join_45 k2 (by omega) (by decide) rfl ?_
          refine J_iconst (v := nI 1) dX4_join_46 (by decide) ?_
          refine J_iload_n dX4_join_47 rfl rfl ?_
          refine K_ishl (v := ((1 : Int32) <<< (nI j &&& 31))) dX4_join_48 rfl ?_
          refine K_ior (v := (f2 i ||| ((1 : Int32) <<< (nI j &&& 31)))) dX4_join_49 rfl ?_
          refine K_iast dX4_join_50 k2 (by omega) (by decide) (fun w1 u1 => ?_)
          have hO := (u1.2.1 _ (by omega)).trans hO
          have k1 := (u1.2.1 _ (by omega)).trans k1
          have k2 := u1.1
          have k3 := (u1.2.1 _ (by omega)).trans k3
          have k4 := (u1.2.1 _ (by omega)).trans k4
          have k5 := (u1.2.1 _ (by omega)).trans k5
          have k6 := (u1.2.1 _ (by omega)).trans k6
          have k7 := (u1.2.1 _ (by omega)).trans k7
          have k8 := (u1.2.1 _ (by omega)).trans k8
          refine J_aload_n dX4_join_51 rfl rfl ?_
          refine J_getfield dX4_join_52 fX4_37 hO rfl ?_
          refine J_iload_n dX4_join_55 rfl rfl ?_
          refine J_dup2 dX4_join_56 rfl rfl ?_
          refine K_iald (v := f2 j) dX4_join_57 k2 (by omega) (by decide) (up_n _ _ (by omega)) ?_
          refine J_iconst (v := nI 1) dX4_join_58 (by decide) ?_
          refine J_iload_n dX4_join_59 rfl rfl ?_
          refine K_ishl (v := ((1 : Int32) <<< (nI i &&& 31))) dX4_join_60 rfl ?_
          refine K_ior (v := (f2 j ||| ((1 : Int32) <<< (nI i &&& 31)))) dX4_join_61 rfl ?_
          refine K_iast dX4_join_62 k2 (by omega) (by decide) (fun w2 u2 => ?_)
          have hO := (u2.2.1 _ (by omega)).trans hO
          have k1 := (u2.2.1 _ (by omega)).trans k1
          have k2 := u2.1
          have k3 := (u2.2.1 _ (by omega)).trans k3
          have k4 := (u2.2.1 _ (by omega)).trans k4
          have k5 := (u2.2.1 _ (by omega)).trans k5
          have k6 := (u2.2.1 _ (by omega)).trans k6
          have k7 := (u2.2.1 _ (by omega)).trans k7
          have k8 := (u2.2.1 _ (by omega)).trans k8
          have hL2 : RepC w2 a (sLink S i j true) := ⟨_, _, _, _, _, _, _, _, _, _, _, hO, ⟨k1, k2, k3, k4, k5, k6, k7, k8⟩, ⟨bc, ba, bo⟩, hlen, (fun b hb => up_R (fun x p => bits x p) (bits_set (hlk j (by omega)) (by omega)) (fun _ => up_R (fun x p => bits x p) (bits_set (hlk i (by omega)) (by omega)) (fun _ => hlk b hb))), htr, (wf_link hwf hi hj hij true)⟩
          refine J_aload_n dX4_join_63 rfl rfl ?_
          refine K_callV dX4_join_64 YX4_countLinks kX4_82 (rc_of hO rfl) (c_X4_countLinks hL2) rfl rfl (Nat.le_of_ble_eq_true rfl) (by decide) ?_
          exact J_ireturn dX4_join_67 rfl rfl (PS_ok (S := S) (S' := sLink S i j true) (by simp [oJoin, e5, e13, h21, e33]; rfl) hL2 (((Fr.rf _ _ _).up u1 (by omega) (by omega)).up u2 (by omega) (by omega)))
        · skip
          have e33 : sLk S i j = true := b2i_ne.mp h33
          refine J_bipush (v := (-13)) dX4_join_36 (by decide) ?_
          exact J_ireturn dX4_join_38 rfl rfl (PS_no hL (c := 2) (by simp [oJoin, e5, e13, h21, e33]) rfl)
      · skip
        have h21 := (nI_eq (by omega) (by omega)).mp h21
        refine J_bipush (v := (-12)) dX4_join_24 (by decide) ?_
        exact J_ireturn dX4_join_26 rfl rfl (PS_no hL (c := 1) (by simp [oJoin, e5, e13, h21]) rfl)
    · skip
      have e13 : (vi (sNb S) y).isSome = false := b2i_eq.mp h13
      have e13 := isS_no e13
      refine J_bipush (v := (-11)) dX4_join_16 (by decide) ?_
      exact J_ireturn dX4_join_18 rfl rfl (PS_no hL (c := 0) (by simp [oJoin, e5, e13]) rfl)

theorem c_X4_separate {w : Wd} {a : Nat} {S : St} (hL : RepC w a S) (x y : Int32) : MC 4 mX4_separate 0 0 [.ref a, .int x, .int y] w (RP (PS w a (oPart S x y))) := by
  have hL_ := hL
  obtain ⟨x4, x5, x6, f1, f2, f3, f4, f5, f6, f7, f8, hO, ⟨k1, k2, k3, k4, k5, k6, k7, k8⟩, ⟨bc, ba, bo⟩, hlen, hlk, htr, hwf⟩ := hL_
  have hnb := hwf.nb
  have hnt := hwf.nt
  refine MC_j pnX4 rfl rfl rfl (Or.inr (fun E w h => RP_no E w h)) ?_
  show J 4 mX4_separate 0 [some (.ref a), some (.int x), some (.int y)] [] w 0 0 _
  refine J_aload_n dX4_separate_0 rfl rfl ?_
  refine J_iload_n dX4_separate_1 rfl rfl ?_
  refine K_callV dX4_separate_2 YX4_isBlock kX4_75 (rc_of hO rfl) (c_X4_isBlock hL _) rfl rfl (Nat.le_of_ble_eq_true rfl) (by decide) ?_
  refine J_if_eq (tgt := 16) dX4_separate_5 (by decide) (fun h5 => ?_) (fun h5 => ?_)
  · skip
    have e5 : (vi (sNb S) x).isSome = false := b2i_eq.mp h5
    have e5 := isS_no e5
    refine J_bipush (v := (-11)) dX4_separate_16 (by decide) ?_
    exact J_ireturn dX4_separate_18 rfl rfl (PS_no hL (c := 0) (by simp [oPart, e5]) rfl)
  · skip
    have e5 : (vi (sNb S) x).isSome = true := b2i_ne.mp h5
    obtain ⟨i, e5⟩ := isS_yes e5
    obtain ⟨hi, rfl⟩ := vi_some (by omega) e5
    refine J_aload_n dX4_separate_8 rfl rfl ?_
    refine J_iload_n dX4_separate_9 rfl rfl ?_
    refine K_callV dX4_separate_10 YX4_isBlock kX4_75 (rc_of hO rfl) (c_X4_isBlock hL _) rfl rfl (Nat.le_of_ble_eq_true rfl) (by decide) ?_
    refine J_if_ne (tgt := 19) dX4_separate_13 (by decide) (fun h13 => ?_) (fun h13 => ?_)
    · skip
      have e13 : (vi (sNb S) y).isSome = true := b2i_ne.mp h13
      obtain ⟨j, e13⟩ := isS_yes e13
      obtain ⟨hj, rfl⟩ := vi_some (by omega) e13
      refine J_aload_n dX4_separate_19 rfl rfl ?_
      refine J_iload_n dX4_separate_20 rfl rfl ?_
      refine J_iload_n dX4_separate_21 rfl rfl ?_
      refine K_callV dX4_separate_22 YX4_isJoined kX4_79 (rc_of hO rfl) (c_X4_isJoined hL (by omega) (by omega)) rfl rfl (Nat.le_of_ble_eq_true rfl) (by decide) ?_
      refine J_if_ne (tgt := 31) dX4_separate_25 (by decide) (fun h25 => ?_) (fun h25 => ?_)
      · skip
        have e25 : sLk S i j = true := b2i_ne.mp h25
        have hij := (hwf.2.2.2.1 _ _ e25).2.2.1
        refine J_aload_n dX4_separate_31 rfl rfl ?_
        refine J_getfield dX4_separate_32 fX4_37 hO rfl ?_
        refine J_iload_n dX4_separate_35 rfl rfl ?_
        refine J_dup2 dX4_separate_36 rfl rfl ?_
        refine K_iald dX4_separate_37 k2 (by omega) (by decide) rfl ?_
        refine J_iconst (v := nI 1) dX4_separate_38 (by decide) ?_
        refine J_iload_n dX4_separate_39 rfl rfl ?_
        refine K_ishl (v := ((1 : Int32) <<< (nI j &&& 31))) dX4_separate_40 rfl ?_
        refine J_iconst (v := (-1)) dX4_separate_41 (by decide) ?_
        refine K_ixor (v := (((1 : Int32) <<< (nI j &&& 31)) ^^^ (-1))) dX4_separate_42 rfl ?_
        refine K_iand (v := (f2 i &&& (((1 : Int32) <<< (nI j &&& 31)) ^^^ (-1)))) dX4_separate_43 rfl ?_
        refine K_iast dX4_separate_44 k2 (by omega) (by decide) (fun w1 u1 => ?_)
        have hO := (u1.2.1 _ (by omega)).trans hO
        have k1 := (u1.2.1 _ (by omega)).trans k1
        have k2 := u1.1
        have k3 := (u1.2.1 _ (by omega)).trans k3
        have k4 := (u1.2.1 _ (by omega)).trans k4
        have k5 := (u1.2.1 _ (by omega)).trans k5
        have k6 := (u1.2.1 _ (by omega)).trans k6
        have k7 := (u1.2.1 _ (by omega)).trans k7
        have k8 := (u1.2.1 _ (by omega)).trans k8
        refine J_aload_n dX4_separate_45 rfl rfl ?_
        refine J_getfield dX4_separate_46 fX4_37 hO rfl ?_
        refine J_iload_n dX4_separate_49 rfl rfl ?_
        refine J_dup2 dX4_separate_50 rfl rfl ?_
        refine K_iald (v := f2 j) dX4_separate_51 k2 (by omega) (by decide) (up_n _ _ (by omega)) ?_
        refine J_iconst (v := nI 1) dX4_separate_52 (by decide) ?_
        refine J_iload_n dX4_separate_53 rfl rfl ?_
        refine K_ishl (v := ((1 : Int32) <<< (nI i &&& 31))) dX4_separate_54 rfl ?_
        refine J_iconst (v := (-1)) dX4_separate_55 (by decide) ?_
        refine K_ixor (v := (((1 : Int32) <<< (nI i &&& 31)) ^^^ (-1))) dX4_separate_56 rfl ?_
        refine K_iand (v := (f2 j &&& (((1 : Int32) <<< (nI i &&& 31)) ^^^ (-1)))) dX4_separate_57 rfl ?_
        refine K_iast dX4_separate_58 k2 (by omega) (by decide) (fun w2 u2 => ?_)
        have hO := (u2.2.1 _ (by omega)).trans hO
        have k1 := (u2.2.1 _ (by omega)).trans k1
        have k2 := u2.1
        have k3 := (u2.2.1 _ (by omega)).trans k3
        have k4 := (u2.2.1 _ (by omega)).trans k4
        have k5 := (u2.2.1 _ (by omega)).trans k5
        have k6 := (u2.2.1 _ (by omega)).trans k6
        have k7 := (u2.2.1 _ (by omega)).trans k7
        have k8 := (u2.2.1 _ (by omega)).trans k8
        have hL2 : RepC w2 a (sLink S i j false) := ⟨_, _, _, _, _, _, _, _, _, _, _, hO, ⟨k1, k2, k3, k4, k5, k6, k7, k8⟩, ⟨bc, ba, bo⟩, hlen, (fun b hb => up_R (fun x p => bits x p) (bits_clr (hlk j (by omega)) (by omega)) (fun _ => up_R (fun x p => bits x p) (bits_clr (hlk i (by omega)) (by omega)) (fun _ => hlk b hb))), htr, (wf_link hwf hi hj hij false)⟩
        refine J_aload_n dX4_separate_59 rfl rfl ?_
        refine K_callV dX4_separate_60 YX4_countLinks kX4_82 (rc_of hO rfl) (c_X4_countLinks hL2) rfl rfl (Nat.le_of_ble_eq_true rfl) (by decide) ?_
        exact J_ireturn dX4_separate_63 rfl rfl (PS_ok (S := S) (S' := sLink S i j false) (by simp [oPart, e5, e13, e25]; rfl) hL2 (((Fr.rf _ _ _).up u1 (by omega) (by omega)).up u2 (by omega) (by omega)))
      · skip
        have e25 : sLk S i j = false := b2i_eq.mp h25
        refine J_bipush (v := (-15)) dX4_separate_28 (by decide) ?_
        exact J_ireturn dX4_separate_30 rfl rfl (PS_no hL (c := 4) (by simp [oPart, e5, e13, e25]) rfl)
    · skip
      have e13 : (vi (sNb S) y).isSome = false := b2i_eq.mp h13
      have e13 := isS_no e13
      refine J_bipush (v := (-11)) dX4_separate_16 (by decide) ?_
      exact J_ireturn dX4_separate_18 rfl rfl (PS_no hL (c := 0) (by simp [oPart, e5, e13]) rfl)

theorem c_X4_placeTrain {w : Wd} {a : Nat} {S : St} (hL : RepC w a S) (x y : Int32) : MC 3 mX4_placeTrain 0 0 [.ref a, .int x, .int y] w (RP (PS w a (oTrain S x y))) := by
  have hL_ := hL
  obtain ⟨x4, x5, x6, f1, f2, f3, f4, f5, f6, f7, f8, hO, ⟨k1, k2, k3, k4, k5, k6, k7, k8⟩, ⟨bc, ba, bo⟩, hlen, hlk, htr, hwf⟩ := hL_
  have hnb := hwf.nb
  have hnt := hwf.nt
  refine MC_j pnX4 rfl rfl rfl (Or.inr (fun E w h => RP_no E w h)) ?_
  show J 3 mX4_placeTrain 0 [some (.ref a), some (.int x), some (.int y), none] [] w 0 0 _
  refine J_aload_n dX4_placeTrain_0 rfl rfl ?_
  refine J_iload_n dX4_placeTrain_1 rfl rfl ?_
  refine K_callV dX4_placeTrain_2 YX4_isBlock kX4_75 (rc_of hO rfl) (c_X4_isBlock hL _) rfl rfl (Nat.le_of_ble_eq_true rfl) (by decide) ?_
  refine J_if_ne (tgt := 11) dX4_placeTrain_5 (by decide) (fun h5 => ?_) (fun h5 => ?_)
  · skip
    have e5 : (vi (sNb S) x).isSome = true := b2i_ne.mp h5
    obtain ⟨i, e5⟩ := isS_yes e5
    obtain ⟨hi, rfl⟩ := vi_some (by omega) e5
    refine J_iload_n dX4_placeTrain_11 rfl rfl ?_
    refine J_iconst (v := nI 1) dX4_placeTrain_12 (by decide) ?_
    refine J_icmp_lt (tgt := 22) dX4_placeTrain_13 (by decide) (fun h13 => ?_) (fun h13 => ?_)
    · skip
      have ev := v19_none (Or.inl h13)
      refine J_bipush (v := (-12)) dX4_placeTrain_22 (by decide) ?_
      exact J_ireturn dX4_placeTrain_24 rfl rfl (PS_no hL (c := 1) (by simp [oTrain, e5, ev]) rfl)
    · skip
      refine J_iload_n dX4_placeTrain_16 rfl rfl ?_
      refine J_bipush (v := nI 9) dX4_placeTrain_17 (by decide) ?_
      refine J_icmp_le (tgt := 25) dX4_placeTrain_19 (by decide) (fun h19 => ?_) (fun h19 => ?_)
      · skip
        obtain ⟨k, ev⟩ := v19_is h13 (Int32.not_lt.mpr h19)
        obtain ⟨hk1, hk2, rfl⟩ := v19_some ev
        refine J_aload_n dX4_placeTrain_25 rfl rfl ?_
        refine J_getfield dX4_placeTrain_26 fX4_15 hO rfl ?_
        refine J_bipush (v := nI 6) dX4_placeTrain_29 (by decide) ?_
        refine J_icmp_lt (tgt := 37) dX4_placeTrain_31 (by decide) (fun h31 => ?_) (fun h31 => ?_)
        · skip
          have h31 := (nI_ltI (by omega) (by omega)).mp h31
          have e31 : ¬ sNt S = 6 := by omega
          refine J_aload_n dX4_placeTrain_37 rfl rfl ?_
          refine J_iload_n dX4_placeTrain_38 rfl rfl ?_
          refine K_callV dX4_placeTrain_39 YX4_trainAt kX4_68 (rc_of hO rfl) (c_X4_trainAt hL (by omega)) rfl rfl (Nat.le_of_ble_eq_true rfl) (by decide) ?_
          refine J_iconst (v := (-1)) dX4_placeTrain_42 (by decide) ?_
          refine J_icmp_ne (tgt := 66) dX4_placeTrain_43 (by decide) (fun h43 => ?_) (fun h43 => ?_)
          · skip
            obtain ⟨k43, e43⟩ : ∃ k_, tAt S i = some k_ := by
              cases q : tAt S i with
              | none => exact absurd ((oI_m1 (tAt_b hL.wf)).mpr q) h43
              | some k_ => exact ⟨k_, rfl⟩
            
            refine J_bipush (v := (-14)) dX4_placeTrain_66 (by decide) ?_
            exact J_ireturn dX4_placeTrain_68 rfl rfl (PS_no hL (c := 3) (by simp [oTrain, e5, ev, e31, e43]) rfl)
          · skip
            have e43 : tAt S i = none := (oI_m1 (tAt_b hL.wf)).mp h43
            
            refine J_aload_n dX4_placeTrain_46 rfl rfl ?_
            refine J_getfield dX4_placeTrain_47 fX4_27 hO rfl ?_
            refine J_iload_n dX4_placeTrain_50 rfl rfl ?_
            refine K_callSN dX4_placeTrain_51 YX8_has kX4_64 (c_has w ba (by omega)) rfl rfl (Nat.le_of_ble_eq_true rfl) (by decide) ?_
            refine J_if_ne (tgt := 66) dX4_placeTrain_54 (by decide) (fun h54 => ?_) (fun h54 => ?_)
            · skip
              have e54 : sCa S i = true := b2i_ne.mp h54
              refine J_bipush (v := (-14)) dX4_placeTrain_66 (by decide) ?_
              exact J_ireturn dX4_placeTrain_68 rfl rfl (PS_no hL (c := 3) (by simp [oTrain, e5, ev, e31, e43, e54]; cases hOf S i <;> rfl) rfl)
            · skip
              have e54 : sCa S i = false := b2i_eq.mp h54
              refine J_aload_n dX4_placeTrain_57 rfl rfl ?_
              refine J_iload_n dX4_placeTrain_58 rfl rfl ?_
              refine K_callV dX4_placeTrain_59 YX4_holderOf kX4_72 (rc_of hO rfl) (c_X4_holderOf hL (by omega)) rfl rfl (Nat.le_of_ble_eq_true rfl) (by decide) ?_
              refine J_iconst (v := (-1)) dX4_placeTrain_62 (by decide) ?_
              refine J_icmp_eq (tgt := 69) dX4_placeTrain_63 (by decide) (fun h63 => ?_) (fun h63 => ?_)
              · skip
                have e63 : hOf S i = none := (oI_m1 (hOf_b hL.wf)).mp h63
                refine J_aload_n dX4_placeTrain_69 rfl rfl ?_
                refine J_getfield dX4_placeTrain_70 fX4_15 hO rfl ?_
                refine J_istore_n dX4_placeTrain_73 rfl (by decide) rfl ?_
                refine J_aload_n dX4_placeTrain_74 rfl rfl ?_
                refine J_getfield dX4_placeTrain_75 fX4_40 hO rfl ?_
                refine J_iload_n dX4_placeTrain_78 rfl rfl ?_
                refine J_iload_n dX4_placeTrain_79 rfl rfl ?_
                refine K_iast dX4_placeTrain_80 k3 (by omega) (by decide) (fun w1 u1 => ?_)
                have hO := (u1.2.1 _ (by omega)).trans hO
                have k1 := (u1.2.1 _ (by omega)).trans k1
                have k2 := (u1.2.1 _ (by omega)).trans k2
                have k3 := u1.1
                have k4 := (u1.2.1 _ (by omega)).trans k4
                have k5 := (u1.2.1 _ (by omega)).trans k5
                have k6 := (u1.2.1 _ (by omega)).trans k6
                have k7 := (u1.2.1 _ (by omega)).trans k7
                have k8 := (u1.2.1 _ (by omega)).trans k8
                refine J_aload_n dX4_placeTrain_81 rfl rfl ?_
                refine J_getfield dX4_placeTrain_82 fX4_43 hO rfl ?_
                refine J_iload_n dX4_placeTrain_85 rfl rfl ?_
                refine J_iload_n dX4_placeTrain_86 rfl rfl ?_
                refine K_iast dX4_placeTrain_87 k4 (by omega) (by decide) (fun w2 u2 => ?_)
                have hO := (u2.2.1 _ (by omega)).trans hO
                have k1 := (u2.2.1 _ (by omega)).trans k1
                have k2 := (u2.2.1 _ (by omega)).trans k2
                have k3 := (u2.2.1 _ (by omega)).trans k3
                have k4 := u2.1
                have k5 := (u2.2.1 _ (by omega)).trans k5
                have k6 := (u2.2.1 _ (by omega)).trans k6
                have k7 := (u2.2.1 _ (by omega)).trans k7
                have k8 := (u2.2.1 _ (by omega)).trans k8
                refine J_aload_n dX4_placeTrain_88 rfl rfl ?_
                refine J_getfield dX4_placeTrain_89 fX4_46 hO rfl ?_
                refine J_iload_n dX4_placeTrain_92 rfl rfl ?_
                refine J_iconst (v := nI 0) dX4_placeTrain_93 (by decide) ?_
                refine K_iast dX4_placeTrain_94 k5 (by omega) (by decide) (fun w3 u3 => ?_)
                have hO := (u3.2.1 _ (by omega)).trans hO
                have k1 := (u3.2.1 _ (by omega)).trans k1
                have k2 := (u3.2.1 _ (by omega)).trans k2
                have k3 := (u3.2.1 _ (by omega)).trans k3
                have k4 := (u3.2.1 _ (by omega)).trans k4
                have k5 := u3.1
                have k6 := (u3.2.1 _ (by omega)).trans k6
                have k7 := (u3.2.1 _ (by omega)).trans k7
                have k8 := (u3.2.1 _ (by omega)).trans k8
                refine J_aload_n dX4_placeTrain_95 rfl rfl ?_
                refine J_getfield dX4_placeTrain_96 fX4_49 hO rfl ?_
                refine J_iload_n dX4_placeTrain_99 rfl rfl ?_
                refine J_iconst (v := (-1)) dX4_placeTrain_100 (by decide) ?_
                refine K_iast dX4_placeTrain_101 k6 (by omega) (by decide) (fun w4 u4 => ?_)
                have hO := (u4.2.1 _ (by omega)).trans hO
                have k1 := (u4.2.1 _ (by omega)).trans k1
                have k2 := (u4.2.1 _ (by omega)).trans k2
                have k3 := (u4.2.1 _ (by omega)).trans k3
                have k4 := (u4.2.1 _ (by omega)).trans k4
                have k5 := (u4.2.1 _ (by omega)).trans k5
                have k6 := u4.1
                have k7 := (u4.2.1 _ (by omega)).trans k7
                have k8 := (u4.2.1 _ (by omega)).trans k8
                refine J_aload_n dX4_placeTrain_102 rfl rfl ?_
                refine J_getfield dX4_placeTrain_103 fX4_52 hO rfl ?_
                refine J_iload_n dX4_placeTrain_106 rfl rfl ?_
                refine J_iconst (v := (-1)) dX4_placeTrain_107 (by decide) ?_
                refine K_iast dX4_placeTrain_108 k7 (by omega) (by decide) (fun w5 u5 => ?_)
                have hO := (u5.2.1 _ (by omega)).trans hO
                have k1 := (u5.2.1 _ (by omega)).trans k1
                have k2 := (u5.2.1 _ (by omega)).trans k2
                have k3 := (u5.2.1 _ (by omega)).trans k3
                have k4 := (u5.2.1 _ (by omega)).trans k4
                have k5 := (u5.2.1 _ (by omega)).trans k5
                have k6 := (u5.2.1 _ (by omega)).trans k6
                have k7 := u5.1
                have k8 := (u5.2.1 _ (by omega)).trans k8
                refine J_aload_n dX4_placeTrain_109 rfl rfl ?_
                refine J_getfield dX4_placeTrain_110 fX4_55 hO rfl ?_
                refine J_iload_n dX4_placeTrain_113 rfl rfl ?_
                refine J_iconst (v := nI 0) dX4_placeTrain_114 (by decide) ?_
                refine K_iast dX4_placeTrain_115 k8 (by omega) (by decide) (fun w6 u6 => ?_)
                have hO := (u6.2.1 _ (by omega)).trans hO
                have k1 := (u6.2.1 _ (by omega)).trans k1
                have k2 := (u6.2.1 _ (by omega)).trans k2
                have k3 := (u6.2.1 _ (by omega)).trans k3
                have k4 := (u6.2.1 _ (by omega)).trans k4
                have k5 := (u6.2.1 _ (by omega)).trans k5
                have k6 := (u6.2.1 _ (by omega)).trans k6
                have k7 := (u6.2.1 _ (by omega)).trans k7
                have k8 := u6.1
                refine J_aload_n dX4_placeTrain_116 rfl rfl ?_
                refine J_dup dX4_placeTrain_117 rfl ?_
                refine J_getfield dX4_placeTrain_118 fX4_15 hO rfl ?_
                refine J_iconst (v := nI 1) dX4_placeTrain_121 (by decide) ?_
                refine K_iadd (v := nI (sNt S + 1)) dX4_placeTrain_122 (nI_add _ _) ?_
                refine K_putI dX4_placeTrain_123 fX4_15 (Or.inl rfl) hO (Nat.le_of_ble_eq_true rfl) (fun w7 u7 => ?_)
                have hO := u7.1
                have k1 := (u7.2.1 _ (by omega)).trans k1
                have k2 := (u7.2.1 _ (by omega)).trans k2
                have k3 := (u7.2.1 _ (by omega)).trans k3
                have k4 := (u7.2.1 _ (by omega)).trans k4
                have k5 := (u7.2.1 _ (by omega)).trans k5
                have k6 := (u7.2.1 _ (by omega)).trans k6
                have k7 := (u7.2.1 _ (by omega)).trans k7
                have k8 := (u7.2.1 _ (by omega)).trans k8
                have hO : w7.1 a = .inr (4, [.int (nI (sNb S)), .int (nI (sNt S + 1)), .int (sTk S), .int (sAr S), .int x4, .int x5, .int x6, .ref (a + 1), .ref (a + 2), .ref (a + 3), .ref (a + 4), .ref (a + 5), .ref (a + 6), .ref (a + 7), .ref (a + 8)]) := hO
                refine J_iload_n dX4_placeTrain_126 rfl rfl ?_
                exact J_ireturn dX4_placeTrain_127 rfl rfl (PS_ok (S := S) (S' := sTrain S i k) (by simp [oTrain, e5, ev, e31, e43, e54, e63]) ⟨_, _, _, _, _, _, _, _, _, _, _, hO, ⟨k1, k2, k3, k4, k5, k6, k7, k8⟩, ⟨bc, ba, bo⟩, hlen, hlk, (fun t ht => ⟨up_F nI rfl (fun e => (htr t (by have ht : t < sNt S + 1 := ht; omega)).1), up_F nI rfl (fun e => (htr t (by have ht : t < sNt S + 1 := ht; omega)).2.1), up_F nI rfl (fun e => (htr t (by have ht : t < sNt S + 1 := ht; omega)).2.2.1), up_F oI rfl (fun e => (htr t (by have ht : t < sNt S + 1 := ht; omega)).2.2.2.1), up_F oI rfl (fun e => (htr t (by have ht : t < sNt S + 1 := ht; omega)).2.2.2.2.1), up_F (fun x => x) rfl (fun e => (htr t (by have ht : t < sNt S + 1 := ht; omega)).2.2.2.2.2)⟩), (wf_train hwf hi hk1 hk2 (by omega) e43)⟩ ((((((((Fr.rf _ _ _).up u1 (by omega) (by omega)).up u2 (by omega) (by omega)).up u3 (by omega) (by omega)).up u4 (by omega) (by omega)).up u5 (by omega) (by omega)).up u6 (by omega) (by omega)).up u7 (by omega) (by omega)))
              · skip
                obtain ⟨k63, e63⟩ : ∃ k_, hOf S i = some k_ := by
                  cases q : hOf S i with
                  | none => exact absurd ((oI_m1 (hOf_b hL.wf)).mpr q) h63
                  | some k_ => exact ⟨k_, rfl⟩
                refine J_bipush (v := (-14)) dX4_placeTrain_66 (by decide) ?_
                exact J_ireturn dX4_placeTrain_68 rfl rfl (PS_no hL (c := 3) (by simp [oTrain, e5, ev, e31, e43, e54, e63]) rfl)
        · skip
          have h31 := mt (nI_ltI (by omega) (by omega)).mpr h31
          have e31 : sNt S = 6 := by omega
          refine J_bipush (v := (-13)) dX4_placeTrain_34 (by decide) ?_
          exact J_ireturn dX4_placeTrain_36 rfl rfl (PS_no hL (c := 2) (by simp [oTrain, e5, ev, e31]) rfl)
      · skip
        have ev := v19_none (Or.inr (Int32.not_le.mp h19))
        refine J_bipush (v := (-12)) dX4_placeTrain_22 (by decide) ?_
        exact J_ireturn dX4_placeTrain_24 rfl rfl (PS_no hL (c := 1) (by simp [oTrain, e5, ev]) rfl)
  · skip
    have e5 : (vi (sNb S) x).isSome = false := b2i_eq.mp h5
    have e5 := isS_no e5
    refine J_bipush (v := (-11)) dX4_placeTrain_8 (by decide) ?_
    exact J_ireturn dX4_placeTrain_10 rfl rfl (PS_no hL (c := 0) (by simp [oTrain, e5]) rfl)

theorem c_X4_dropGoal {w : Wd} {a : Nat} {S : St} (hL : RepC w a S) (x : Int32) : MC 3 mX4_dropGoal 0 0 [.ref a, .int x] w (RP (PS w a (oDrop S x))) := by
  have hL_ := hL
  obtain ⟨x4, x5, x6, f1, f2, f3, f4, f5, f6, f7, f8, hO, ⟨k1, k2, k3, k4, k5, k6, k7, k8⟩, ⟨bc, ba, bo⟩, hlen, hlk, htr, hwf⟩ := hL_
  have hnb := hwf.nb
  have hnt := hwf.nt
  refine MC_j pnX4 rfl rfl rfl (Or.inr (fun E w h => RP_no E w h)) ?_
  show J 3 mX4_dropGoal 0 [some (.ref a), some (.int x), none] [] w 0 0 _
  refine J_aload_n dX4_dropGoal_0 rfl rfl ?_
  refine J_iload_n dX4_dropGoal_1 rfl rfl ?_
  refine K_callV dX4_dropGoal_2 YX4_isTrain kX4_91 (rc_of hO rfl) (c_X4_isTrain hL _) rfl rfl (Nat.le_of_ble_eq_true rfl) (by decide) ?_
  refine J_if_ne (tgt := 11) dX4_dropGoal_5 (by decide) (fun h5 => ?_) (fun h5 => ?_)
  · skip
    have e5 : (vi (sNt S) x).isSome = true := b2i_ne.mp h5
    obtain ⟨i, e5⟩ := isS_yes e5
    obtain ⟨hi, rfl⟩ := vi_some (by omega) e5
    refine J_aload_n dX4_dropGoal_11 rfl rfl ?_
    refine J_getfield dX4_dropGoal_12 fX4_49 hO rfl ?_
    refine J_iload_n dX4_dropGoal_15 rfl rfl ?_
    refine K_iald (v := oI (sGo S i)) dX4_dropGoal_16 k6 (by omega) (by decide) (htr _ (by omega)).2.2.2.1 ?_
    refine J_istore_n dX4_dropGoal_17 rfl (by decide) rfl ?_
    refine J_iload_n dX4_dropGoal_18 rfl rfl ?_
    refine J_iconst (v := (-1)) dX4_dropGoal_19 (by decide) ?_
    refine J_icmp_ne (tgt := 26) dX4_dropGoal_20 (by decide) (fun h20 => ?_) (fun h20 => ?_)
    · skip
      obtain ⟨k20, e20⟩ : ∃ k_, sGo S i = some k_ := by
        cases q : sGo S i with
        | none => exact absurd ((oI_m1 (sGo_b hwf (by omega))).mpr q) h20
        | some k_ => exact ⟨k_, rfl⟩
      refine J_aload_n dX4_dropGoal_26 rfl rfl ?_
      refine J_getfield dX4_dropGoal_27 fX4_49 hO rfl ?_
      refine J_iload_n dX4_dropGoal_30 rfl rfl ?_
      refine J_iconst (v := (-1)) dX4_dropGoal_31 (by decide) ?_
      refine K_iast dX4_dropGoal_32 k6 (by omega) (by decide) (fun w1 u1 => ?_)
      have hO := (u1.2.1 _ (by omega)).trans hO
      have k1 := (u1.2.1 _ (by omega)).trans k1
      have k2 := (u1.2.1 _ (by omega)).trans k2
      have k3 := (u1.2.1 _ (by omega)).trans k3
      have k4 := (u1.2.1 _ (by omega)).trans k4
      have k5 := (u1.2.1 _ (by omega)).trans k5
      have k6 := u1.1
      have k7 := (u1.2.1 _ (by omega)).trans k7
      have k8 := (u1.2.1 _ (by omega)).trans k8
      refine J_iload_n dX4_dropGoal_33 rfl rfl ?_
      exact J_ireturn dX4_dropGoal_34 rfl rfl (PS_ok (S := S) (S' := sGoal S i none) (by simp [oDrop, e5, e20, oI]) ⟨_, _, _, _, _, _, _, _, _, _, _, hO, ⟨k1, k2, k3, k4, k5, k6, k7, k8⟩, ⟨bc, ba, bo⟩, hlen, hlk, (fun t ht => ⟨(htr t ht).1, (htr t ht).2.1, (htr t ht).2.2.1, up_F oI rfl (fun e => (htr t ht).2.2.2.1), (htr t ht).2.2.2.2.1, (htr t ht).2.2.2.2.2⟩), (wf_goal hwf (fun x e => by cases e))⟩ ((Fr.rf _ _ _).up u1 (by omega) (by omega)))
    · skip
      have e20 : sGo S i = none := (oI_m1 (sGo_b hwf (by omega))).mp h20
      refine J_bipush (v := (-15)) dX4_dropGoal_23 (by decide) ?_
      exact J_ireturn dX4_dropGoal_25 rfl rfl (PS_no hL (c := 4) (by simp [oDrop, e5, e20]) rfl)
  · skip
    have e5 : (vi (sNt S) x).isSome = false := b2i_eq.mp h5
    have e5 := isS_no e5
    refine J_bipush (v := (-11)) dX4_dropGoal_8 (by decide) ?_
    exact J_ireturn dX4_dropGoal_10 rfl rfl (PS_no hL (c := 0) (by simp [oDrop, e5]) rfl)

theorem c_X4_release {w : Wd} {a : Nat} {S : St} (hL : RepC w a S) (x : Int32) : MC 3 mX4_release 0 0 [.ref a, .int x] w (RP (PS w a (oFree S x))) := by
  have hL_ := hL
  obtain ⟨x4, x5, x6, f1, f2, f3, f4, f5, f6, f7, f8, hO, ⟨k1, k2, k3, k4, k5, k6, k7, k8⟩, ⟨bc, ba, bo⟩, hlen, hlk, htr, hwf⟩ := hL_
  have hnb := hwf.nb
  have hnt := hwf.nt
  refine MC_j pnX4 rfl rfl rfl (Or.inr (fun E w h => RP_no E w h)) ?_
  show J 3 mX4_release 0 [some (.ref a), some (.int x), none] [] w 0 0 _
  refine J_aload_n dX4_release_0 rfl rfl ?_
  refine J_iload_n dX4_release_1 rfl rfl ?_
  refine K_callV dX4_release_2 YX4_isTrain kX4_91 (rc_of hO rfl) (c_X4_isTrain hL _) rfl rfl (Nat.le_of_ble_eq_true rfl) (by decide) ?_
  refine J_if_ne (tgt := 11) dX4_release_5 (by decide) (fun h5 => ?_) (fun h5 => ?_)
  · skip
    have e5 : (vi (sNt S) x).isSome = true := b2i_ne.mp h5
    obtain ⟨i, e5⟩ := isS_yes e5
    obtain ⟨hi, rfl⟩ := vi_some (by omega) e5
    refine J_aload_n dX4_release_11 rfl rfl ?_
    refine J_getfield dX4_release_12 fX4_52 hO rfl ?_
    refine J_iload_n dX4_release_15 rfl rfl ?_
    refine K_iald (v := oI (sHo S i)) dX4_release_16 k7 (by omega) (by decide) (htr _ (by omega)).2.2.2.2.1 ?_
    refine J_istore_n dX4_release_17 rfl (by decide) rfl ?_
    refine J_iload_n dX4_release_18 rfl rfl ?_
    refine J_iconst (v := (-1)) dX4_release_19 (by decide) ?_
    refine J_icmp_ne (tgt := 26) dX4_release_20 (by decide) (fun h20 => ?_) (fun h20 => ?_)
    · skip
      obtain ⟨k20, e20⟩ : ∃ k_, sHo S i = some k_ := by
        cases q : sHo S i with
        | none => exact absurd ((oI_m1 (sHo_b hwf (by omega))).mpr q) h20
        | some k_ => exact ⟨k_, rfl⟩
      refine J_aload_n dX4_release_26 rfl rfl ?_
      refine J_getfield dX4_release_27 fX4_52 hO rfl ?_
      refine J_iload_n dX4_release_30 rfl rfl ?_
      refine J_iconst (v := (-1)) dX4_release_31 (by decide) ?_
      refine K_iast dX4_release_32 k7 (by omega) (by decide) (fun w1 u1 => ?_)
      have hO := (u1.2.1 _ (by omega)).trans hO
      have k1 := (u1.2.1 _ (by omega)).trans k1
      have k2 := (u1.2.1 _ (by omega)).trans k2
      have k3 := (u1.2.1 _ (by omega)).trans k3
      have k4 := (u1.2.1 _ (by omega)).trans k4
      have k5 := (u1.2.1 _ (by omega)).trans k5
      have k6 := (u1.2.1 _ (by omega)).trans k6
      have k7 := u1.1
      have k8 := (u1.2.1 _ (by omega)).trans k8
      refine J_iload_n dX4_release_33 rfl rfl ?_
      exact J_ireturn dX4_release_34 rfl rfl (PS_ok (S := S) (S' := sHold S i none) (by simp [oFree, e5, e20, oI]) ⟨_, _, _, _, _, _, _, _, _, _, _, hO, ⟨k1, k2, k3, k4, k5, k6, k7, k8⟩, ⟨bc, ba, bo⟩, hlen, hlk, (fun t ht => ⟨(htr t ht).1, (htr t ht).2.1, (htr t ht).2.2.1, (htr t ht).2.2.2.1, up_F oI rfl (fun e => (htr t ht).2.2.2.2.1), (htr t ht).2.2.2.2.2⟩), (wf_hold hwf (fun x e => by cases e))⟩ ((Fr.rf _ _ _).up u1 (by omega) (by omega)))
    · skip
      have e20 : sHo S i = none := (oI_m1 (sHo_b hwf (by omega))).mp h20
      refine J_bipush (v := (-15)) dX4_release_23 (by decide) ?_
      exact J_ireturn dX4_release_25 rfl rfl (PS_no hL (c := 4) (by simp [oFree, e5, e20]) rfl)
  · skip
    have e5 : (vi (sNt S) x).isSome = false := b2i_eq.mp h5
    have e5 := isS_no e5
    refine J_bipush (v := (-11)) dX4_release_8 (by decide) ?_
    exact J_ireturn dX4_release_10 rfl rfl (PS_no hL (c := 0) (by simp [oFree, e5]) rfl)

theorem c_X4_hold {w : Wd} {a : Nat} {S : St} (hL : RepC w a S) (x y : Int32) : MC 4 mX4_hold 0 0 [.ref a, .int x, .int y] w (RP (PS w a (oHold S x y))) := by
  have hL_ := hL
  obtain ⟨x4, x5, x6, f1, f2, f3, f4, f5, f6, f7, f8, hO, ⟨k1, k2, k3, k4, k5, k6, k7, k8⟩, ⟨bc, ba, bo⟩, hlen, hlk, htr, hwf⟩ := hL_
  have hnb := hwf.nb
  have hnt := hwf.nt
  refine MC_j pnX4 rfl rfl rfl (Or.inr (fun E w h => RP_no E w h)) ?_
  show J 4 mX4_hold 0 [some (.ref a), some (.int x), some (.int y)] [] w 0 0 _
  refine J_aload_n dX4_hold_0 rfl rfl ?_
  refine J_iload_n dX4_hold_1 rfl rfl ?_
  refine K_callV dX4_hold_2 YX4_isTrain kX4_91 (rc_of hO rfl) (c_X4_isTrain hL _) rfl rfl (Nat.le_of_ble_eq_true rfl) (by decide) ?_
  refine J_if_eq (tgt := 16) dX4_hold_5 (by decide) (fun h5 => ?_) (fun h5 => ?_)
  · skip
    have e5 : (vi (sNt S) x).isSome = false := b2i_eq.mp h5
    have e5 := isS_no e5
    refine J_bipush (v := (-11)) dX4_hold_16 (by decide) ?_
    exact J_ireturn dX4_hold_18 rfl rfl (PS_no hL (c := 0) (by simp [oHold, e5]) rfl)
  · skip
    have e5 : (vi (sNt S) x).isSome = true := b2i_ne.mp h5
    obtain ⟨i, e5⟩ := isS_yes e5
    obtain ⟨hi, rfl⟩ := vi_some (by omega) e5
    refine J_aload_n dX4_hold_8 rfl rfl ?_
    refine J_iload_n dX4_hold_9 rfl rfl ?_
    refine K_callV dX4_hold_10 YX4_isBlock kX4_75 (rc_of hO rfl) (c_X4_isBlock hL _) rfl rfl (Nat.le_of_ble_eq_true rfl) (by decide) ?_
    refine J_if_ne (tgt := 19) dX4_hold_13 (by decide) (fun h13 => ?_) (fun h13 => ?_)
    · skip
      have e13 : (vi (sNb S) y).isSome = true := b2i_ne.mp h13
      obtain ⟨j, e13⟩ := isS_yes e13
      obtain ⟨hj, rfl⟩ := vi_some (by omega) e13
      refine J_aload_n dX4_hold_19 rfl rfl ?_
      refine J_aload_n dX4_hold_20 rfl rfl ?_
      refine J_getfield dX4_hold_21 fX4_40 hO rfl ?_
      refine J_iload_n dX4_hold_24 rfl rfl ?_
      have q25a := hwf.2.2.2.2.1 i (by omega)
      refine K_iald (v := nI (sPl S i)) dX4_hold_25 k3 (by omega) (by decide) (htr _ (by omega)).1 ?_
      refine J_iload_n dX4_hold_26 rfl rfl ?_
      refine K_callV dX4_hold_27 YX4_isJoined kX4_79 (rc_of hO rfl) (c_X4_isJoined hL (by omega) (by omega)) rfl rfl (Nat.le_of_ble_eq_true rfl) (by decide) ?_
      refine J_if_ne (tgt := 36) dX4_hold_30 (by decide) (fun h30 => ?_) (fun h30 => ?_)
      · skip
        have e30 : sLk S (sPl S i) j = true := b2i_ne.mp h30
        refine J_aload_n dX4_hold_36 rfl rfl ?_
        refine J_getfield dX4_hold_37 fX4_52 hO rfl ?_
        refine J_iload_n dX4_hold_40 rfl rfl ?_
        refine K_iald (v := oI (sHo S i)) dX4_hold_41 k7 (by omega) (by decide) (htr _ (by omega)).2.2.2.2.1 ?_
        refine J_iconst (v := (-1)) dX4_hold_42 (by decide) ?_
        refine J_icmp_eq (tgt := 49) dX4_hold_43 (by decide) (fun h43 => ?_) (fun h43 => ?_)
        · skip
          have e43 : sHo S i = none := (oI_m1 (sHo_b hwf (by omega))).mp h43
          refine J_aload_n dX4_hold_49 rfl rfl ?_
          refine J_iload_n dX4_hold_50 rfl rfl ?_
          refine K_callV dX4_hold_51 YX4_trainAt kX4_68 (rc_of hO rfl) (c_X4_trainAt hL (by omega)) rfl rfl (Nat.le_of_ble_eq_true rfl) (by decide) ?_
          refine J_iconst (v := (-1)) dX4_hold_54 (by decide) ?_
          refine J_icmp_ne (tgt := 67) dX4_hold_55 (by decide) (fun h55 => ?_) (fun h55 => ?_)
          · skip
            obtain ⟨k55, e55⟩ : ∃ k_, tAt S j = some k_ := by
              cases q : tAt S j with
              | none => exact absurd ((oI_m1 (tAt_b hL.wf)).mpr q) h55
              | some k_ => exact ⟨k_, rfl⟩
            refine J_bipush (v := (-14)) dX4_hold_67 (by decide) ?_
            exact J_ireturn dX4_hold_69 rfl rfl (PS_no hL (c := 3) (by simp [oHold, e5, e13, e30, e43, e55]) rfl)
          · skip
            have e55 : tAt S j = none := (oI_m1 (tAt_b hL.wf)).mp h55
            refine J_aload_n dX4_hold_58 rfl rfl ?_
            refine J_iload_n dX4_hold_59 rfl rfl ?_
            refine K_callV dX4_hold_60 YX4_holderOf kX4_72 (rc_of hO rfl) (c_X4_holderOf hL (by omega)) rfl rfl (Nat.le_of_ble_eq_true rfl) (by decide) ?_
            refine J_iconst (v := (-1)) dX4_hold_63 (by decide) ?_
            refine J_icmp_eq (tgt := 70) dX4_hold_64 (by decide) (fun h64 => ?_) (fun h64 => ?_)
            · skip
              have e64 : hOf S j = none := (oI_m1 (hOf_b hL.wf)).mp h64
              refine J_aload_n dX4_hold_70 rfl rfl ?_
              refine J_getfield dX4_hold_71 fX4_52 hO rfl ?_
              refine J_iload_n dX4_hold_74 rfl rfl ?_
              refine J_iload_n dX4_hold_75 rfl rfl ?_
              refine K_iast dX4_hold_76 k7 (by omega) (by decide) (fun w1 u1 => ?_)
              have hO := (u1.2.1 _ (by omega)).trans hO
              have k1 := (u1.2.1 _ (by omega)).trans k1
              have k2 := (u1.2.1 _ (by omega)).trans k2
              have k3 := (u1.2.1 _ (by omega)).trans k3
              have k4 := (u1.2.1 _ (by omega)).trans k4
              have k5 := (u1.2.1 _ (by omega)).trans k5
              have k6 := (u1.2.1 _ (by omega)).trans k6
              have k7 := u1.1
              have k8 := (u1.2.1 _ (by omega)).trans k8
              have hL2 : RepC w1 a (sHold S i (some j)) := ⟨_, _, _, _, _, _, _, _, _, _, _, hO, ⟨k1, k2, k3, k4, k5, k6, k7, k8⟩, ⟨bc, ba, bo⟩, hlen, hlk, (fun t ht => ⟨(htr t ht).1, (htr t ht).2.1, (htr t ht).2.2.1, (htr t ht).2.2.2.1, up_F oI rfl (fun e => (htr t ht).2.2.2.2.1), (htr t ht).2.2.2.2.2⟩), (wf_hold hwf (fun x e => by cases e; exact ⟨hj, fun u hu _ => hOf_none e64 u hu⟩))⟩
              refine J_aload_n dX4_hold_77 rfl rfl ?_
              refine K_callV dX4_hold_78 YX4_countHolds kX4_94 (rc_of hO rfl) (c_X4_countHolds hL2) rfl rfl (Nat.le_of_ble_eq_true rfl) (by decide) ?_
              exact J_ireturn dX4_hold_81 rfl rfl (PS_ok (S := S) (S' := sHold S i (some j)) (by simp [oHold, e5, e13, e30, e43, e55, e64]; rfl) hL2 ((Fr.rf _ _ _).up u1 (by omega) (by omega)))
            · skip
              obtain ⟨k64, e64⟩ : ∃ k_, hOf S j = some k_ := by
                cases q : hOf S j with
                | none => exact absurd ((oI_m1 (hOf_b hL.wf)).mpr q) h64
                | some k_ => exact ⟨k_, rfl⟩
              refine J_bipush (v := (-14)) dX4_hold_67 (by decide) ?_
              exact J_ireturn dX4_hold_69 rfl rfl (PS_no hL (c := 3) (by simp [oHold, e5, e13, e30, e43, e55, e64]) rfl)
        · skip
          obtain ⟨k43, e43⟩ : ∃ k_, sHo S i = some k_ := by
            cases q : sHo S i with
            | none => exact absurd ((oI_m1 (sHo_b hwf (by omega))).mpr q) h43
            | some k_ => exact ⟨k_, rfl⟩
          refine J_bipush (v := (-13)) dX4_hold_46 (by decide) ?_
          exact J_ireturn dX4_hold_48 rfl rfl (PS_no hL (c := 2) (by simp [oHold, e5, e13, e30, e43]) rfl)
      · skip
        have e30 : sLk S (sPl S i) j = false := b2i_eq.mp h30
        refine J_bipush (v := (-12)) dX4_hold_33 (by decide) ?_
        exact J_ireturn dX4_hold_35 rfl rfl (PS_no hL (c := 1) (by simp [oHold, e5, e13, e30]) rfl)
    · skip
      have e13 : (vi (sNb S) y).isSome = false := b2i_eq.mp h13
      have e13 := isS_no e13
      refine J_bipush (v := (-11)) dX4_hold_16 (by decide) ?_
      exact J_ireturn dX4_hold_18 rfl rfl (PS_no hL (c := 0) (by simp [oHold, e5, e13]) rfl)

theorem c_X4_rerail {w : Wd} {a : Nat} {S : St} (hL : RepC w a S) (x : Int32) : MC 3 mX4_rerail 0 0 [.ref a, .int x] w (RP (PS w a (oResc S x))) := by
  have hL_ := hL
  obtain ⟨x4, x5, x6, f1, f2, f3, f4, f5, f6, f7, f8, hO, ⟨k1, k2, k3, k4, k5, k6, k7, k8⟩, ⟨bc, ba, bo⟩, hlen, hlk, htr, hwf⟩ := hL_
  have hnb := hwf.nb
  have hnt := hwf.nt
  refine MC_j pnX4 rfl rfl rfl (Or.inr (fun E w h => RP_no E w h)) ?_
  show J 3 mX4_rerail 0 [some (.ref a), some (.int x)] [] w 0 0 _
  refine J_aload_n dX4_rerail_0 rfl rfl ?_
  refine J_iload_n dX4_rerail_1 rfl rfl ?_
  refine K_callV dX4_rerail_2 YX4_isTrain kX4_91 (rc_of hO rfl) (c_X4_isTrain hL _) rfl rfl (Nat.le_of_ble_eq_true rfl) (by decide) ?_
  refine J_if_ne (tgt := 11) dX4_rerail_5 (by decide) (fun h5 => ?_) (fun h5 => ?_)
  · skip
    have e5 : (vi (sNt S) x).isSome = true := b2i_ne.mp h5
    obtain ⟨i, e5⟩ := isS_yes e5
    obtain ⟨hi, rfl⟩ := vi_some (by omega) e5
    refine J_aload_n dX4_rerail_11 rfl rfl ?_
    refine J_getfield dX4_rerail_12 fX4_30 hO rfl ?_
    refine J_iload_n dX4_rerail_15 rfl rfl ?_
    refine K_callSN dX4_rerail_16 YX8_has kX4_64 (c_has w bo (by omega)) rfl rfl (Nat.le_of_ble_eq_true rfl) (by decide) ?_
    refine J_if_ne (tgt := 25) dX4_rerail_19 (by decide) (fun h19 => ?_) (fun h19 => ?_)
    · skip
      have e19 : sOf S i = true := b2i_ne.mp h19
      refine J_aload_n dX4_rerail_25 rfl rfl ?_
      refine J_dup dX4_rerail_26 rfl ?_
      refine J_getfield dX4_rerail_27 fX4_30 hO rfl ?_
      refine J_iconst (v := nI 1) dX4_rerail_30 (by decide) ?_
      refine J_iload_n dX4_rerail_31 rfl rfl ?_
      refine K_ishl (v := ((1 : Int32) <<< (nI i &&& 31))) dX4_rerail_32 rfl ?_
      refine J_iconst (v := (-1)) dX4_rerail_33 (by decide) ?_
      refine K_ixor (v := (((1 : Int32) <<< (nI i &&& 31)) ^^^ (-1))) dX4_rerail_34 rfl ?_
      refine K_iand (v := (x6 &&& (((1 : Int32) <<< (nI i &&& 31)) ^^^ (-1)))) dX4_rerail_35 rfl ?_
      refine K_putI dX4_rerail_36 fX4_30 (Or.inl rfl) hO (Nat.le_of_ble_eq_true rfl) (fun w1 u1 => ?_)
      have hO := u1.1
      have k1 := (u1.2.1 _ (by omega)).trans k1
      have k2 := (u1.2.1 _ (by omega)).trans k2
      have k3 := (u1.2.1 _ (by omega)).trans k3
      have k4 := (u1.2.1 _ (by omega)).trans k4
      have k5 := (u1.2.1 _ (by omega)).trans k5
      have k6 := (u1.2.1 _ (by omega)).trans k6
      have k7 := (u1.2.1 _ (by omega)).trans k7
      have k8 := (u1.2.1 _ (by omega)).trans k8
      have hO : w1.1 a = .inr (4, [.int (nI (sNb S)), .int (nI (sNt S)), .int (sTk S), .int (sAr S), .int x4, .int x5, .int ((x6 &&& (((1 : Int32) <<< (nI i &&& 31)) ^^^ (-1)))), .ref (a + 1), .ref (a + 2), .ref (a + 3), .ref (a + 4), .ref (a + 5), .ref (a + 6), .ref (a + 7), .ref (a + 8)]) := hO
      refine J_aload_n dX4_rerail_39 rfl rfl ?_
      refine J_getfield dX4_rerail_40 fX4_30 hO rfl ?_
      refine K_callS dX4_rerail_43 YJ6_bitCount_0f7a4 kX4_86 (c_bitCount (n := sNt S) w1 (bits_clr bo (by omega)) (by omega) (fun j hj => by rw [up_n _ _ (by omega)]; exact hwf.2.2.2.2.2.2.2.2.2 j hj)) rfl rfl (Nat.le_of_ble_eq_true rfl) (by decide) ?_
      exact J_ireturn dX4_rerail_46 rfl rfl (PS_ok (S := S) (S' := sOff S i false) (by simp [oResc, e5, e19]) ⟨_, _, _, _, _, _, _, _, _, _, _, hO, ⟨k1, k2, k3, k4, k5, k6, k7, k8⟩, ⟨bc, ba, (bits_clr bo (by omega))⟩, hlen, hlk, htr, (wf_off hwf hi false)⟩ ((Fr.rf _ _ _).up u1 (by omega) (by omega)))
    · skip
      have e19 : sOf S i = false := b2i_eq.mp h19
      refine J_bipush (v := (-13)) dX4_rerail_22 (by decide) ?_
      exact J_ireturn dX4_rerail_24 rfl rfl (PS_no hL (c := 2) (by simp [oResc, e5, e19]) rfl)
  · skip
    have e5 : (vi (sNt S) x).isSome = false := b2i_eq.mp h5
    have e5 := isS_no e5
    refine J_bipush (v := (-11)) dX4_rerail_8 (by decide) ?_
    exact J_ireturn dX4_rerail_10 rfl rfl (PS_no hL (c := 0) (by simp [oResc, e5]) rfl)

theorem c_X4_moveTrain {w : Wd} {a : Nat} {S : St} (hL : RepC w a S) {t b : Nat} (ht : t < sNt S) (hb : b < sNb S) (hf : tAt S b = none) : MC 3 mX4_moveTrain 0 0 [.ref a, .int (nI t), .int (nI b)] w (RP (fun v w' => v = none ∧ RepC w' a (sMove S t b) ∧ Fr w w' a (a + 9))) := by
  have hL_ := hL
  obtain ⟨x4, x5, x6, f1, f2, f3, f4, f5, f6, f7, f8, hO, ⟨k1, k2, k3, k4, k5, k6, k7, k8⟩, ⟨bc, ba, bo⟩, hlen, hlk, htr, hwf⟩ := hL_
  have hnb := hwf.nb
  have hnt := hwf.nt
  refine MC_j pnX4 rfl rfl rfl (Or.inr (fun E w h => RP_no E w h)) ?_
  show J 3 mX4_moveTrain 0 [some (.ref a), some (.int (nI t)), some (.int (nI b))] [] w 0 0 _
  refine J_aload_n dX4_moveTrain_0 rfl rfl ?_
  refine J_getfield dX4_moveTrain_1 fX4_40 hO rfl ?_
  refine J_iload_n dX4_moveTrain_4 rfl rfl ?_
  refine J_iload_n dX4_moveTrain_5 rfl rfl ?_
  refine K_iast dX4_moveTrain_6 k3 (by omega) (by decide) (fun w1 u1 => ?_)
  have hO := (u1.2.1 _ (by omega)).trans hO
  have k1 := (u1.2.1 _ (by omega)).trans k1
  have k2 := (u1.2.1 _ (by omega)).trans k2
  have k3 := u1.1
  have k4 := (u1.2.1 _ (by omega)).trans k4
  have k5 := (u1.2.1 _ (by omega)).trans k5
  have k6 := (u1.2.1 _ (by omega)).trans k6
  have k7 := (u1.2.1 _ (by omega)).trans k7
  have k8 := (u1.2.1 _ (by omega)).trans k8
  refine J_aload_n dX4_moveTrain_7 rfl rfl ?_
  refine J_getfield dX4_moveTrain_8 fX4_52 hO rfl ?_
  refine J_iload_n dX4_moveTrain_11 rfl rfl ?_
  refine J_iconst (v := (-1)) dX4_moveTrain_12 (by decide) ?_
  refine K_iast dX4_moveTrain_13 k7 (by omega) (by decide) (fun w2 u2 => ?_)
  have hO := (u2.2.1 _ (by omega)).trans hO
  have k1 := (u2.2.1 _ (by omega)).trans k1
  have k2 := (u2.2.1 _ (by omega)).trans k2
  have k3 := (u2.2.1 _ (by omega)).trans k3
  have k4 := (u2.2.1 _ (by omega)).trans k4
  have k5 := (u2.2.1 _ (by omega)).trans k5
  have k6 := (u2.2.1 _ (by omega)).trans k6
  have k7 := u2.1
  have k8 := (u2.2.1 _ (by omega)).trans k8
  refine J_aload_n dX4_moveTrain_14 rfl rfl ?_
  refine J_getfield dX4_moveTrain_15 fX4_46 hO rfl ?_
  refine J_iload_n dX4_moveTrain_18 rfl rfl ?_
  refine J_aload_n dX4_moveTrain_19 rfl rfl ?_
  refine J_getfield dX4_moveTrain_20 fX4_33 hO rfl ?_
  refine J_iload_n dX4_moveTrain_23 rfl rfl ?_
  have q24a := hwf.2.1 b (by omega)
  refine K_iald (v := nI (sLen S b)) dX4_moveTrain_24 k1 (by omega) (by decide) (hlen _ (by omega)) ?_
  refine K_iast dX4_moveTrain_25 k5 (by omega) (by decide) (fun w3 u3 => ?_)
  have hO := (u3.2.1 _ (by omega)).trans hO
  have k1 := (u3.2.1 _ (by omega)).trans k1
  have k2 := (u3.2.1 _ (by omega)).trans k2
  have k3 := (u3.2.1 _ (by omega)).trans k3
  have k4 := (u3.2.1 _ (by omega)).trans k4
  have k5 := u3.1
  have k6 := (u3.2.1 _ (by omega)).trans k6
  have k7 := (u3.2.1 _ (by omega)).trans k7
  have k8 := (u3.2.1 _ (by omega)).trans k8
  refine J_aload_n dX4_moveTrain_26 rfl rfl ?_
  refine J_getfield dX4_moveTrain_27 fX4_27 hO rfl ?_
  refine J_iload_n dX4_moveTrain_30 rfl rfl ?_
  refine K_callSN dX4_moveTrain_31 YX8_has kX4_64 (c_has w3 ba (by omega)) rfl rfl (Nat.le_of_ble_eq_true rfl) (by decide) ?_
  refine J_if_eq (tgt := 63) dX4_moveTrain_34 (by decide) (fun h34 => ?_) (fun h34 => ?_)
  · skip
    have e34 : sCa S b = false := b2i_eq.mp h34
    refine J_aload_n dX4_moveTrain_63 rfl rfl ?_
    refine J_getfield dX4_moveTrain_64 fX4_49 hO rfl ?_
    refine J_iload_n dX4_moveTrain_67 rfl rfl ?_
    refine K_iald (v := oI (sGo S t)) dX4_moveTrain_68 k6 (by omega) (by decide) (htr _ (by omega)).2.2.2.1 ?_
    refine J_iload_n dX4_moveTrain_69 rfl rfl ?_
    refine J_icmp_ne (tgt := 90) dX4_moveTrain_70 (by decide) (fun h70 => ?_) (fun h70 => ?_)
    · skip
      have e70 : ¬ sGo S t = some b := by
        intro q
        exact h70 (by rw [q]; rfl)
      have eS : sMove S t b = (((sNb S, sNt S, sTk S, sAr S), (sLen S, sCu S, va_up (sCa S) b false, sLk S), (va_up (sPl S) t b, sPr S, va_up (sRe S) t (sLen S b), sGo S, va_up (sHo S) t none, sOf S, sWa S)) : St) := by simp [sMove, e34, e70]
      exact J_return dX4_moveTrain_90 rfl (RP_i ⟨rfl, (by rw [eS]; exact ⟨_, _, _, _, _, _, _, _, _, _, _, hO, ⟨k1, k2, k3, k4, k5, k6, k7, k8⟩, ⟨bc, (bits_same ba e34), bo⟩, hlen, hlk, (fun u hu => ⟨up_F nI rfl (fun e => (htr u hu).1), (htr u hu).2.1, up_F nI rfl (fun e => (htr u hu).2.2.1), (htr u hu).2.2.2.1, up_F oI rfl (fun e => (htr u hu).2.2.2.2.1), (htr u hu).2.2.2.2.2⟩), (eS ▸ wf_move hwf ht hb hf)⟩), ((((Fr.rf _ _ _).up u1 (by omega) (by omega)).up u2 (by omega) (by omega)).up u3 (by omega) (by omega))⟩)
    · skip
      have e70 : sGo S t = some b := by
        cases q : sGo S t with
        | none =>
          rw [q] at h70
          exact absurd (Eq.symm h70) (nI_ne_m1 (by omega))
        | some y =>
          rw [q] at h70
          have := hwf.2.2.2.2.2.1 t ht y q
          rw [nI_inj (a := y) (b := b) (by omega) (by omega) h70]
      refine J_aload_n dX4_moveTrain_73 rfl rfl ?_
      refine J_getfield dX4_moveTrain_74 fX4_49 hO rfl ?_
      refine J_iload_n dX4_moveTrain_77 rfl rfl ?_
      refine J_iconst (v := (-1)) dX4_moveTrain_78 (by decide) ?_
      refine K_iast dX4_moveTrain_79 k6 (by omega) (by decide) (fun w4 u4 => ?_)
      have hO := (u4.2.1 _ (by omega)).trans hO
      have k1 := (u4.2.1 _ (by omega)).trans k1
      have k2 := (u4.2.1 _ (by omega)).trans k2
      have k3 := (u4.2.1 _ (by omega)).trans k3
      have k4 := (u4.2.1 _ (by omega)).trans k4
      have k5 := (u4.2.1 _ (by omega)).trans k5
      have k6 := u4.1
      have k7 := (u4.2.1 _ (by omega)).trans k7
      have k8 := (u4.2.1 _ (by omega)).trans k8
      refine J_aload_n dX4_moveTrain_80 rfl rfl ?_
      refine J_dup dX4_moveTrain_81 rfl ?_
      refine J_getfield dX4_moveTrain_82 fX4_21 hO rfl ?_
      refine J_iconst (v := nI 1) dX4_moveTrain_85 (by decide) ?_
      refine K_iadd (v := sAr S + 1) dX4_moveTrain_86 rfl ?_
      refine K_putI dX4_moveTrain_87 fX4_21 (Or.inl rfl) hO (Nat.le_of_ble_eq_true rfl) (fun w5 u5 => ?_)
      have hO := u5.1
      have k1 := (u5.2.1 _ (by omega)).trans k1
      have k2 := (u5.2.1 _ (by omega)).trans k2
      have k3 := (u5.2.1 _ (by omega)).trans k3
      have k4 := (u5.2.1 _ (by omega)).trans k4
      have k5 := (u5.2.1 _ (by omega)).trans k5
      have k6 := (u5.2.1 _ (by omega)).trans k6
      have k7 := (u5.2.1 _ (by omega)).trans k7
      have k8 := (u5.2.1 _ (by omega)).trans k8
      have hO : w5.1 a = .inr (4, [.int (nI (sNb S)), .int (nI (sNt S)), .int (sTk S), .int ((sAr S + 1)), .int x4, .int x5, .int x6, .ref (a + 1), .ref (a + 2), .ref (a + 3), .ref (a + 4), .ref (a + 5), .ref (a + 6), .ref (a + 7), .ref (a + 8)]) := hO
      have eS : sMove S t b = (((sNb S, sNt S, sTk S, sAr S + 1), (sLen S, sCu S, va_up (sCa S) b false, sLk S), (va_up (sPl S) t b, sPr S, va_up (sRe S) t (sLen S b), va_up (sGo S) t none, va_up (sHo S) t none, sOf S, sWa S)) : St) := by simp [sMove, e34, e70]
      exact J_return dX4_moveTrain_90 rfl (RP_i ⟨rfl, (by rw [eS]; exact ⟨_, _, _, _, _, _, _, _, _, _, _, hO, ⟨k1, k2, k3, k4, k5, k6, k7, k8⟩, ⟨bc, (bits_same ba e34), bo⟩, hlen, hlk, (fun u hu => ⟨up_F nI rfl (fun e => (htr u hu).1), (htr u hu).2.1, up_F nI rfl (fun e => (htr u hu).2.2.1), up_F oI rfl (fun e => (htr u hu).2.2.2.1), up_F oI rfl (fun e => (htr u hu).2.2.2.2.1), (htr u hu).2.2.2.2.2⟩), (eS ▸ wf_move hwf ht hb hf)⟩), ((((((Fr.rf _ _ _).up u1 (by omega) (by omega)).up u2 (by omega) (by omega)).up u3 (by omega) (by omega)).up u4 (by omega) (by omega)).up u5 (by omega) (by omega))⟩)
  · skip
    have e34 : sCa S b = true := b2i_ne.mp h34
    refine J_aload_n dX4_moveTrain_37 rfl rfl ?_
    refine J_dup dX4_moveTrain_38 rfl ?_
    refine J_getfield dX4_moveTrain_39 fX4_30 hO rfl ?_
    refine J_iconst (v := nI 1) dX4_moveTrain_42 (by decide) ?_
    refine J_iload_n dX4_moveTrain_43 rfl rfl ?_
    refine K_ishl (v := ((1 : Int32) <<< (nI t &&& 31))) dX4_moveTrain_44 rfl ?_
    refine K_ior (v := (x6 ||| ((1 : Int32) <<< (nI t &&& 31)))) dX4_moveTrain_45 rfl ?_
    refine K_putI dX4_moveTrain_46 fX4_30 (Or.inl rfl) hO (Nat.le_of_ble_eq_true rfl) (fun w4 u4 => ?_)
    have hO := u4.1
    have k1 := (u4.2.1 _ (by omega)).trans k1
    have k2 := (u4.2.1 _ (by omega)).trans k2
    have k3 := (u4.2.1 _ (by omega)).trans k3
    have k4 := (u4.2.1 _ (by omega)).trans k4
    have k5 := (u4.2.1 _ (by omega)).trans k5
    have k6 := (u4.2.1 _ (by omega)).trans k6
    have k7 := (u4.2.1 _ (by omega)).trans k7
    have k8 := (u4.2.1 _ (by omega)).trans k8
    have hO : w4.1 a = .inr (4, [.int (nI (sNb S)), .int (nI (sNt S)), .int (sTk S), .int (sAr S), .int x4, .int x5, .int ((x6 ||| ((1 : Int32) <<< (nI t &&& 31)))), .ref (a + 1), .ref (a + 2), .ref (a + 3), .ref (a + 4), .ref (a + 5), .ref (a + 6), .ref (a + 7), .ref (a + 8)]) := hO
    refine J_aload_n dX4_moveTrain_49 rfl rfl ?_
    refine J_dup dX4_moveTrain_50 rfl ?_
    refine J_getfield dX4_moveTrain_51 fX4_27 hO rfl ?_
    refine J_iconst (v := nI 1) dX4_moveTrain_54 (by decide) ?_
    refine J_iload_n dX4_moveTrain_55 rfl rfl ?_
    refine K_ishl (v := ((1 : Int32) <<< (nI b &&& 31))) dX4_moveTrain_56 rfl ?_
    refine J_iconst (v := (-1)) dX4_moveTrain_57 (by decide) ?_
    refine K_ixor (v := (((1 : Int32) <<< (nI b &&& 31)) ^^^ (-1))) dX4_moveTrain_58 rfl ?_
    refine K_iand (v := (x5 &&& (((1 : Int32) <<< (nI b &&& 31)) ^^^ (-1)))) dX4_moveTrain_59 rfl ?_
    refine K_putI dX4_moveTrain_60 fX4_27 (Or.inl rfl) hO (Nat.le_of_ble_eq_true rfl) (fun w5 u5 => ?_)
    have hO := u5.1
    have k1 := (u5.2.1 _ (by omega)).trans k1
    have k2 := (u5.2.1 _ (by omega)).trans k2
    have k3 := (u5.2.1 _ (by omega)).trans k3
    have k4 := (u5.2.1 _ (by omega)).trans k4
    have k5 := (u5.2.1 _ (by omega)).trans k5
    have k6 := (u5.2.1 _ (by omega)).trans k6
    have k7 := (u5.2.1 _ (by omega)).trans k7
    have k8 := (u5.2.1 _ (by omega)).trans k8
    have hO : w5.1 a = .inr (4, [.int (nI (sNb S)), .int (nI (sNt S)), .int (sTk S), .int (sAr S), .int x4, .int ((x5 &&& (((1 : Int32) <<< (nI b &&& 31)) ^^^ (-1)))), .int ((x6 ||| ((1 : Int32) <<< (nI t &&& 31)))), .ref (a + 1), .ref (a + 2), .ref (a + 3), .ref (a + 4), .ref (a + 5), .ref (a + 6), .ref (a + 7), .ref (a + 8)]) := hO
    refine J_aload_n dX4_moveTrain_63 rfl rfl ?_
    refine J_getfield dX4_moveTrain_64 fX4_49 hO rfl ?_
    refine J_iload_n dX4_moveTrain_67 rfl rfl ?_
    refine K_iald (v := oI (sGo S t)) dX4_moveTrain_68 k6 (by omega) (by decide) (htr _ (by omega)).2.2.2.1 ?_
    refine J_iload_n dX4_moveTrain_69 rfl rfl ?_
    refine J_icmp_ne (tgt := 90) dX4_moveTrain_70 (by decide) (fun h70 => ?_) (fun h70 => ?_)
    · skip
      have e70 : ¬ sGo S t = some b := by
        intro q
        exact h70 (by rw [q]; rfl)
      have eS : sMove S t b = (((sNb S, sNt S, sTk S, sAr S), (sLen S, sCu S, va_up (sCa S) b false, sLk S), (va_up (sPl S) t b, sPr S, va_up (sRe S) t (sLen S b), sGo S, va_up (sHo S) t none, va_up (sOf S) t true, sWa S)) : St) := by simp [sMove, e34, e70]
      exact J_return dX4_moveTrain_90 rfl (RP_i ⟨rfl, (by rw [eS]; exact ⟨_, _, _, _, _, _, _, _, _, _, _, hO, ⟨k1, k2, k3, k4, k5, k6, k7, k8⟩, ⟨bc, (bits_clr ba (by omega)), (bits_set bo (by omega))⟩, hlen, hlk, (fun u hu => ⟨up_F nI rfl (fun e => (htr u hu).1), (htr u hu).2.1, up_F nI rfl (fun e => (htr u hu).2.2.1), (htr u hu).2.2.2.1, up_F oI rfl (fun e => (htr u hu).2.2.2.2.1), (htr u hu).2.2.2.2.2⟩), (eS ▸ wf_move hwf ht hb hf)⟩), ((((((Fr.rf _ _ _).up u1 (by omega) (by omega)).up u2 (by omega) (by omega)).up u3 (by omega) (by omega)).up u4 (by omega) (by omega)).up u5 (by omega) (by omega))⟩)
    · skip
      have e70 : sGo S t = some b := by
        cases q : sGo S t with
        | none =>
          rw [q] at h70
          exact absurd (Eq.symm h70) (nI_ne_m1 (by omega))
        | some y =>
          rw [q] at h70
          have := hwf.2.2.2.2.2.1 t ht y q
          rw [nI_inj (a := y) (b := b) (by omega) (by omega) h70]
      refine J_aload_n dX4_moveTrain_73 rfl rfl ?_
      refine J_getfield dX4_moveTrain_74 fX4_49 hO rfl ?_
      refine J_iload_n dX4_moveTrain_77 rfl rfl ?_
      refine J_iconst (v := (-1)) dX4_moveTrain_78 (by decide) ?_
      refine K_iast dX4_moveTrain_79 k6 (by omega) (by decide) (fun w6 u6 => ?_)
      have hO := (u6.2.1 _ (by omega)).trans hO
      have k1 := (u6.2.1 _ (by omega)).trans k1
      have k2 := (u6.2.1 _ (by omega)).trans k2
      have k3 := (u6.2.1 _ (by omega)).trans k3
      have k4 := (u6.2.1 _ (by omega)).trans k4
      have k5 := (u6.2.1 _ (by omega)).trans k5
      have k6 := u6.1
      have k7 := (u6.2.1 _ (by omega)).trans k7
      have k8 := (u6.2.1 _ (by omega)).trans k8
      refine J_aload_n dX4_moveTrain_80 rfl rfl ?_
      refine J_dup dX4_moveTrain_81 rfl ?_
      refine J_getfield dX4_moveTrain_82 fX4_21 hO rfl ?_
      refine J_iconst (v := nI 1) dX4_moveTrain_85 (by decide) ?_
      refine K_iadd (v := sAr S + 1) dX4_moveTrain_86 rfl ?_
      refine K_putI dX4_moveTrain_87 fX4_21 (Or.inl rfl) hO (Nat.le_of_ble_eq_true rfl) (fun w7 u7 => ?_)
      have hO := u7.1
      have k1 := (u7.2.1 _ (by omega)).trans k1
      have k2 := (u7.2.1 _ (by omega)).trans k2
      have k3 := (u7.2.1 _ (by omega)).trans k3
      have k4 := (u7.2.1 _ (by omega)).trans k4
      have k5 := (u7.2.1 _ (by omega)).trans k5
      have k6 := (u7.2.1 _ (by omega)).trans k6
      have k7 := (u7.2.1 _ (by omega)).trans k7
      have k8 := (u7.2.1 _ (by omega)).trans k8
      have hO : w7.1 a = .inr (4, [.int (nI (sNb S)), .int (nI (sNt S)), .int (sTk S), .int ((sAr S + 1)), .int x4, .int ((x5 &&& (((1 : Int32) <<< (nI b &&& 31)) ^^^ (-1)))), .int ((x6 ||| ((1 : Int32) <<< (nI t &&& 31)))), .ref (a + 1), .ref (a + 2), .ref (a + 3), .ref (a + 4), .ref (a + 5), .ref (a + 6), .ref (a + 7), .ref (a + 8)]) := hO
      have eS : sMove S t b = (((sNb S, sNt S, sTk S, sAr S + 1), (sLen S, sCu S, va_up (sCa S) b false, sLk S), (va_up (sPl S) t b, sPr S, va_up (sRe S) t (sLen S b), va_up (sGo S) t none, va_up (sHo S) t none, va_up (sOf S) t true, sWa S)) : St) := by simp [sMove, e34, e70]
      exact J_return dX4_moveTrain_90 rfl (RP_i ⟨rfl, (by rw [eS]; exact ⟨_, _, _, _, _, _, _, _, _, _, _, hO, ⟨k1, k2, k3, k4, k5, k6, k7, k8⟩, ⟨bc, (bits_clr ba (by omega)), (bits_set bo (by omega))⟩, hlen, hlk, (fun u hu => ⟨up_F nI rfl (fun e => (htr u hu).1), (htr u hu).2.1, up_F nI rfl (fun e => (htr u hu).2.2.1), up_F oI rfl (fun e => (htr u hu).2.2.2.1), up_F oI rfl (fun e => (htr u hu).2.2.2.2.1), (htr u hu).2.2.2.2.2⟩), (eS ▸ wf_move hwf ht hb hf)⟩), ((((((((Fr.rf _ _ _).up u1 (by omega) (by omega)).up u2 (by omega) (by omega)).up u3 (by omega) (by omega)).up u4 (by omega) (by omega)).up u5 (by omega) (by omega)).up u6 (by omega) (by omega)).up u7 (by omega) (by omega))⟩)

end JCHANGE

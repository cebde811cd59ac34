/-! HISTORY AND OUTPUT -/
section JHIST
section
variable {d : Nat} {mi : MI} {pc : Nat} {lc : List (Option Value)} {st : List Value} {w : Wd} {kb sb : Nat} {Q : Po}
theorem J_min {idx : Nat} {x y v : Int32} (hd : decode mi.2.1 pc = .ok (.invokestatic idx, 3)) (hL : Cond.methodLink mi.1.cls idx Lib.Math.min.name ∈ AL ∧ Cond.static Lib.Math.min.name ∈ AL) (hI : Cond.initialized "java/lang/Math" ∈ AL) (hC : Cond.code Lib.Math.min.name Lib.Math.min.code 2 (some .int) ∈ AL) (hcat : (st.map fun v => v.category).sum ≤ 8) (hdd : 1 ≤ d) (hv : (if y < x then y else x) = v) (kk : J d mi (pc + 3) lc (.int v :: st) w kb sb Q) : J d mi pc lc (.int y :: .int x :: st) w kb sb Q := by
  subst hv
  intro p l e R s m args below meth c z sa D dA Z mc ms C h1 h2 h3 h4 h5 H locs cells slots ls hR hS hl h6 h7
  have hroom := C.room
  exact va_mmin C.1.1 C.1.2.1 (C.1.2.2.1.trans hl.1.symm) C.own (C.hts _ hL.1) (C.hts _ hL.2) (C.hts _ hI) (C.hts _ hC) (by omega) (by rw [mv_cats]; omega) (by omega) (by omega) hd (kk p l e R s m args below meth c z sa D dA Z mc ms C h1 h2 h3 h4 h5 H locs cells slots ls hR hS hl h6 h7)
theorem J_max {idx : Nat} {x y v : Int32} (hd : decode mi.2.1 pc = .ok (.invokestatic idx, 3)) (hL : Cond.methodLink mi.1.cls idx Lib.Math.max.name ∈ AL ∧ Cond.static Lib.Math.max.name ∈ AL) (hI : Cond.initialized "java/lang/Math" ∈ AL) (hC : Cond.code Lib.Math.max.name Lib.Math.max.code 2 (some .int) ∈ AL) (hcat : (st.map fun v => v.category).sum ≤ 8) (hdd : 1 ≤ d) (hv : (if x < y then y else x) = v) (kk : J d mi (pc + 3) lc (.int v :: st) w kb sb Q) : J d mi pc lc (.int y :: .int x :: st) w kb sb Q := by
  subst hv
  intro p l e R s m args below meth c z sa D dA Z mc ms C h1 h2 h3 h4 h5 H locs cells slots ls hR hS hl h6 h7
  have hroom := C.room
  exact va_mmax C.1.1 C.1.2.1 (C.1.2.2.1.trans hl.1.symm) C.own (C.hts _ hL.1) (C.hts _ hL.2) (C.hts _ hI) (C.hts _ hC) (by omega) (by rw [mv_cats]; omega) (by omega) (by omega) hd (kk p l e R s m args below meth c z sa D dA Z mc ms C h1 h2 h3 h4 h5 H locs cells slots ls hR hS hl h6 h7)
end
theorem wMin : Cond.code Lib.Math.min.name Lib.Math.min.code 2 (some .int) ∈ AL := AL_in (T3 (List.mem_of_getElem? (i := 85) rfl)) rfl
theorem wMax : Cond.code Lib.Math.max.name Lib.Math.max.code 2 (some .int) ∈ AL := AL_in (T4 (List.mem_of_getElem? (i := 50) rfl)) rfl
theorem wMath : Cond.initialized "java/lang/Math" ∈ AL := AL_in (T1 (List.mem_of_getElem? (i := 21) rfl)) rfl
theorem nI_rem9 : ∀ a, a < 200 → nI a - nI a / nI 9 * nI 9 = nI (a % 9) := by decide +kernel
theorem nI_rem10 : ∀ a, a < 200 → nI a - nI a / nI 10 * nI 10 = nI (a % 10) := by decide +kernel
theorem nI_div10 : ∀ a, a < 200 → nI a / nI 10 = nI (a / 10) := by decide +kernel
theorem i2c_n : ∀ c, c < 256 → ((nI c).toUInt32 % 65536).toInt32 = nI c := by decide +kernel
theorem narc_n : ∀ c, c < 256 → vp_nar .char (nI c) = nI c := by decide +kernel
theorem RepC.rc {w : Wd} {a : Nat} {S : St} (h : RepC w a S) : Rc w a RX4 := by
  obtain ⟨x4, x5, x6, f1, f2, f3, f4, f5, f6, f7, f8, hO, -⟩ := h
  exact rc_of hO rfl
/-- the layouts that are kept: P is the stack of those that can come back (ct of them, the oldest first), K the one that is being tried -/
def RepH (w : Wd) (h : Nat) (P : Nat → St) (ct : Nat) (K : St) : Prop := ∃ (nx : Nat) (sl : Nat → St) (f : Nat → Option Nat), w.1 h = .inr (3, [.ref (h + 1), .int (nI nx), .int (nI ct)]) ∧ w.1 (h + 1) = .inl (4, 9, .inr (.inr (.inr (.inr f)))) ∧ (∀ k, k < 9 → f k = some (h + 2 + 9 * k)) ∧ (∀ k, k < 9 → RepC w (h + 2 + 9 * k) (sl k)) ∧ (nx < 9 ∧ ct ≤ 8) ∧ (∀ j, j < ct → sl ((nx + 9 - ct + j) % 9) = P j) ∧ sl nx = K
theorem RepH.fr {w w' : Wd} {h lo hi : Nat} {P : Nat → St} {ct : Nat} {K : St} (H : RepH w h P ct K) (k : Fr w w' lo hi) (g : h + 83 ≤ lo ∨ hi ≤ h) : RepH w' h P ct K := by
  obtain ⟨nx, sl, f, a0, a1, a2, a3, a4, a5, a6⟩ := H
  exact ⟨nx, sl, f, (k.1 _ (by omega)).trans a0, (k.1 _ (by omega)).trans a1, a2, fun j hj => (a3 j hj).fr k (by omega), a4, a5, a6⟩
def pushN (ct : Nat) : Nat := if ct = 8 then 8 else ct + 1
def pushP (P : Nat → St) (ct : Nat) (K : St) : Nat → St := if ct = 8 then (fun j => if j = 7 then K else P (j + 1)) else va_up P ct K
theorem c_X3_keep {w : Wd} {h a : Nat} {P : Nat → St} {ct : Nat} {K S : St} (hH : RepH w h P ct K) (hL : RepC w a S) (hd : a + 9 ≤ h ∨ h + 83 ≤ a) : MC 3 mX3_keep 0 0 [.ref h, .ref a] w (RP (fun v w' => v = none ∧ Fr w w' (h + 2) (h + 83) ∧ RepH w' h P ct S)) := by
  obtain ⟨nx, sl, f, hO, hS, hf, hl, ⟨hn, hc⟩, hp, hk⟩ := id hH
  refine MC_j pnX3 rfl rfl rfl (Or.inr (fun E w h => RP_no E w h)) ?_
  show J 3 mX3_keep 0 [some (.ref h), some (.ref a)] [] w 0 0 _
  refine J_aload_n dX3_keep_0 rfl rfl ?_
  refine J_getfield dX3_keep_1 fX3_11 hO rfl ?_
  refine J_aload_n dX3_keep_4 rfl rfl ?_
  refine J_getfield dX3_keep_5 fX3_17 hO rfl ?_
  refine K_aald dX3_keep_8 hS (by omega) (by decide) (hf _ (by omega)) ?_
  refine J_aload_n dX3_keep_9 rfl rfl ?_
  refine K_callVp dX3_keep_10 YX4_copyFrom kX3_25 (RepC.rc (hl nx hn)) (c_X4_copyFrom (hl nx hn) hL (by omega)) rfl rfl (Nat.le_of_ble_eq_true rfl) (by decide) (fun v10 w10 q10 => ?_)
  obtain ⟨rfl, hC, hF⟩ := q10
  exact J_return dX3_keep_13 rfl (RP_i ⟨rfl, hF.wd (by omega) (by omega), nx, va_up sl nx S, f, (hF.1 _ (by omega)).trans hO, (hF.1 _ (by omega)).trans hS, hf, (fun k hk => by
    by_cases e : k = nx
    · subst e; rw [up_s]; exact hC
    · rw [up_n _ _ e]; exact (hl k hk).fr hF (by omega)), ⟨hn, hc⟩, (fun j hj => by rw [up_n _ _ (by omega)]; exact hp j hj), up_s _ _ _⟩)

theorem c_X3_confirm {w : Wd} {h : Nat} {P : Nat → St} {ct : Nat} {K : St} (hH : RepH w h P ct K) : MC 3 mX3_confirm 0 0 [.ref h] w (RP (fun v w' => v = none ∧ Fr w w' h (h + 1) ∧ ∃ K', RepH w' h (pushP P ct K) (pushN ct) K')) := by
  obtain ⟨nx, sl, f, hO, hS, hf, hl, ⟨hn, hc⟩, hp, hk⟩ := id hH
  refine MC_j pnX3 rfl rfl rfl (Or.inr (fun E w h => RP_no E w h)) ?_
  show J 3 mX3_confirm 0 [some (.ref h)] [] w 0 0 _
  refine J_aload_n dX3_confirm_0 rfl rfl ?_
  refine J_aload_n dX3_confirm_1 rfl rfl ?_
  refine J_getfield dX3_confirm_2 fX3_17 hO rfl ?_
  refine J_iconst (v := nI 1) dX3_confirm_5 (by decide) ?_
  refine K_iadd (v := nI (nx + 1)) dX3_confirm_6 (nI_add _ _) ?_
  refine J_bipush (v := nI 9) dX3_confirm_7 (by decide) ?_
  refine K_irem (v := nI ((nx + 1) % 9)) dX3_confirm_9 (by decide) (nI_rem9 _ (by omega)) ?_
  refine K_putI dX3_confirm_10 fX3_17 (Or.inl rfl) hO (Nat.le_of_ble_eq_true rfl) (fun w1 u1 => ?_)
  have hO := u1.1
  have hS := (u1.2.1 _ (by omega)).trans hS
  have hO : w1.1 h = .inr (3, [.ref (h + 1), .int (nI ((nx + 1) % 9)), .int (nI ct)]) := hO
  refine J_aload_n dX3_confirm_13 rfl rfl ?_
  refine J_aload_n dX3_confirm_14 rfl rfl ?_
  refine J_getfield dX3_confirm_15 fX3_21 hO rfl ?_
  refine J_iconst (v := nI 1) dX3_confirm_18 (by decide) ?_
  refine K_iadd (v := nI (ct + 1)) dX3_confirm_19 (nI_add _ _) ?_
  refine J_bipush (v := nI 8) dX3_confirm_20 (by decide) ?_
  refine J_min (v := nI (pushN ct)) dX3_confirm_22 kX3_29 wMath wMin (Nat.le_of_ble_eq_true rfl) (by decide) (by
    unfold pushN
    by_cases e : ct = 8
    · rw [if_pos e, if_pos (nI_lt (by omega) (by omega))]
    · rw [if_neg e, if_neg (nI_nlt (by omega) (by omega))]) ?_
  refine K_putI dX3_confirm_25 fX3_21 (Or.inl rfl) hO (Nat.le_of_ble_eq_true rfl) (fun w2 u2 => ?_)
  have hO := u2.1
  have hS := (u2.2.1 _ (by omega)).trans hS
  have hO : w2.1 h = .inr (3, [.ref (h + 1), .int (nI ((nx + 1) % 9)), .int (nI (pushN ct))]) := hO
  exact J_return dX3_confirm_28 rfl (RP_i ⟨rfl, (((Fr.rf _ _ _).up u1 (by omega) (by omega)).up u2 (by omega) (by omega)), _, (nx + 1) % 9, sl, f, hO, hS, hf, (fun k hk => (hl k hk).fr (((Fr.rf w h (h + 1)).up u1 (by omega) (by omega)).up u2 (by omega) (by omega)) (by omega)), ⟨by omega, by unfold pushN; split <;> omega⟩, (fun j hj => by
    unfold pushN at hj ⊢
    unfold pushP
    by_cases e : ct = 8
    · rw [if_pos e] at hj
      rw [if_pos e, if_pos e]
      by_cases e2 : j = 7
      · subst e2
        rw [if_pos rfl, ← hk]
        congr 1
        omega
      · rw [if_neg e2, ← hp (j + 1) (by omega)]
        congr 1
        omega
    · rw [if_neg e] at hj
      rw [if_neg e, if_neg e]
      by_cases e2 : j = ct
      · subst e2
        rw [up_s, ← hk]
        congr 1
        omega
      · rw [up_n _ _ e2, ← hp j (by omega)]
        congr 1
        omega), rfl⟩)

theorem c_X3_revert {w : Wd} {h a : Nat} {P : Nat → St} {ct : Nat} {K S : St} (hH : RepH w h P ct K) (hL : RepC w a S) (hd : a + 9 ≤ h ∨ h + 83 ≤ a) : MC 3 mX3_revert 0 0 [.ref h, .ref a] w (RP (fun v w' => v = none ∧ Fr w w' a (a + 9) ∧ RepC w' a K)) := by
  obtain ⟨nx, sl, f, hO, hS, hf, hl, ⟨hn, hc⟩, hp, hk⟩ := id hH
  refine MC_j pnX3 rfl rfl rfl (Or.inr (fun E w h => RP_no E w h)) ?_
  show J 3 mX3_revert 0 [some (.ref h), some (.ref a)] [] w 0 0 _
  refine J_aload_n dX3_revert_0 rfl rfl ?_
  refine J_aload_n dX3_revert_1 rfl rfl ?_
  refine J_getfield dX3_revert_2 fX3_11 hO rfl ?_
  refine J_aload_n dX3_revert_5 rfl rfl ?_
  refine J_getfield dX3_revert_6 fX3_17 hO rfl ?_
  refine K_aald dX3_revert_9 hS (by omega) (by decide) (hf _ (by omega)) ?_
  refine K_callVp dX3_revert_10 YX4_copyFrom kX3_25 (RepC.rc hL) (c_X4_copyFrom hL (hl nx hn) (by omega)) rfl rfl (Nat.le_of_ble_eq_true rfl) (by decide) (fun v10 w10 q10 => ?_)
  obtain ⟨rfl, hC, hF⟩ := q10
  exact J_return dX3_revert_13 rfl (RP_i ⟨rfl, hF, hk ▸ hC⟩)

theorem c_X3_stepBack {w : Wd} {h a : Nat} {P : Nat → St} {ct : Nat} {K S : St} (hH : RepH w h P ct K) (hL : RepC w a S) (hd : a + 9 ≤ h ∨ h + 83 ≤ a) (h0 : 0 < ct) : MC 3 mX3_stepBack 0 0 [.ref h, .ref a] w (RP (fun v w' => v = some (.int (nI (ct - 1))) ∧ (∀ b : Nat, b ≠ h → (b < a ∨ a + 9 ≤ b) → w'.1 b = w.1 b) ∧ w'.2.1 = w.2.1 ∧ RepC w' a (P (ct - 1)) ∧ ∃ K', RepH w' h P (ct - 1) K')) := by
  obtain ⟨nx, sl, f, hO, hS, hf, hl, ⟨hn, hc⟩, hp, hk⟩ := id hH
  refine MC_j pnX3 rfl rfl rfl (Or.inr (fun E w h => RP_no E w h)) ?_
  show J 3 mX3_stepBack 0 [some (.ref h), some (.ref a)] [] w 0 0 _
  refine J_aload_n dX3_stepBack_0 rfl rfl ?_
  refine J_aload_n dX3_stepBack_1 rfl rfl ?_
  refine J_getfield dX3_stepBack_2 fX3_17 hO rfl ?_
  refine J_bipush (v := nI 8) dX3_stepBack_5 (by decide) ?_
  refine K_iadd (v := nI (nx + 8)) dX3_stepBack_7 (nI_add _ _) ?_
  refine J_bipush (v := nI 9) dX3_stepBack_8 (by decide) ?_
  refine K_irem (v := nI ((nx + 8) % 9)) dX3_stepBack_10 (by decide) (nI_rem9 _ (by omega)) ?_
  refine K_putI dX3_stepBack_11 fX3_17 (Or.inl rfl) hO (Nat.le_of_ble_eq_true rfl) (fun w1 u1 => ?_)
  have hO := u1.1
  have hS := (u1.2.1 _ (by omega)).trans hS
  have hO : w1.1 h = .inr (3, [.ref (h + 1), .int (nI ((nx + 8) % 9)), .int (nI ct)]) := hO
  refine J_aload_n dX3_stepBack_14 rfl rfl ?_
  refine J_aload_n dX3_stepBack_15 rfl rfl ?_
  refine J_getfield dX3_stepBack_16 fX3_11 hO rfl ?_
  refine J_aload_n dX3_stepBack_19 rfl rfl ?_
  refine J_getfield dX3_stepBack_20 fX3_17 hO rfl ?_
  refine K_aald dX3_stepBack_23 hS (by omega) (by decide) (hf _ (by omega)) ?_
  refine K_callVp dX3_stepBack_24 YX4_copyFrom kX3_25 (RepC.rc (hL.fr ((Fr.rf w h (h + 1)).up u1 (by omega) (by omega)) (by omega))) (c_X4_copyFrom (hL.fr ((Fr.rf w h (h + 1)).up u1 (by omega) (by omega)) (by omega)) ((hl ((nx + 8) % 9) (by omega)).fr ((Fr.rf w h (h + 1)).up u1 (by omega) (by omega)) (by omega)) (by omega)) rfl rfl (Nat.le_of_ble_eq_true rfl) (by decide) (fun v24 w24 q24 => ?_)
  obtain ⟨rfl, hC, hF⟩ := q24
  have hO := (hF.1 _ (by omega)).trans hO
  have hS := (hF.1 _ (by omega)).trans hS
  refine J_aload_n dX3_stepBack_27 rfl rfl ?_
  refine J_dup dX3_stepBack_28 rfl ?_
  refine J_getfield dX3_stepBack_29 fX3_21 hO rfl ?_
  refine J_iconst (v := nI 1) dX3_stepBack_32 (by decide) ?_
  refine K_isub (v := nI (ct - 1)) dX3_stepBack_33 (nI_sub (by omega)) ?_
  refine K_putI dX3_stepBack_34 fX3_21 (Or.inl rfl) hO (Nat.le_of_ble_eq_true rfl) (fun w2 u2 => ?_)
  have hO := u2.1
  have hS := (u2.2.1 _ (by omega)).trans hS
  have hO : w2.1 h = .inr (3, [.ref (h + 1), .int (nI ((nx + 8) % 9)), .int (nI (ct - 1))]) := hO
  refine J_aload_n dX3_stepBack_37 rfl rfl ?_
  refine J_getfield dX3_stepBack_38 fX3_21 hO rfl ?_
  exact J_ireturn dX3_stepBack_41 rfl rfl (RP_i ⟨rfl, (fun b hb1 hb2 => (u2.2.1 _ (by omega)).trans ((hF.1 _ (by omega)).trans (u1.2.1 _ (by omega)))), (congrArg Prod.fst u2.2.2).trans (hF.2.trans (congrArg Prod.fst u1.2.2)), (by
    rw [← hp (ct - 1) (by omega), show (nx + 9 - ct + (ct - 1)) % 9 = (nx + 8) % 9 by omega]
    exact hC.fr ((Fr.rf _ h (h + 1)).up u2 (by omega) (by omega)) (by omega)), _, (nx + 8) % 9, sl, f, hO, hS, hf, (fun k hk => (((hl k hk).fr ((Fr.rf w h (h + 1)).up u1 (by omega) (by omega)) (by omega)).fr hF (by omega)).fr ((Fr.rf _ h (h + 1)).up u2 (by omega) (by omega)) (by omega)), ⟨by omega, by omega⟩, (fun j hj => by
    rw [← hp j (by omega)]
    congr 1
    omega), rfl⟩)

theorem c_X3_forget {w : Wd} {h : Nat} {P : Nat → St} {ct : Nat} {K : St} (hH : RepH w h P ct K) : MC 2 mX3_forget 0 0 [.ref h] w (RP (fun v w' => v = none ∧ Fr w w' h (h + 1) ∧ RepH w' h P 0 K)) := by
  obtain ⟨nx, sl, f, hO, hS, hf, hl, ⟨hn, hc⟩, hp, hk⟩ := id hH
  refine MC_j pnX3 rfl rfl rfl (Or.inr (fun E w h => RP_no E w h)) ?_
  show J 2 mX3_forget 0 [some (.ref h)] [] w 0 0 _
  refine J_aload_n dX3_forget_0 rfl rfl ?_
  refine J_iconst (v := nI 0) dX3_forget_1 (by decide) ?_
  refine K_putI dX3_forget_2 fX3_21 (Or.inl rfl) hO (Nat.le_of_ble_eq_true rfl) (fun w1 u1 => ?_)
  have hO := u1.1
  have hS := (u1.2.1 _ (by omega)).trans hS
  have hO : w1.1 h = .inr (3, [.ref (h + 1), .int (nI nx), .int (nI 0)]) := hO
  exact J_return dX3_forget_5 rfl (RP_i ⟨rfl, ((Fr.rf _ _ _).up u1 (by omega) (by omega)), nx, sl, f, hO, hS, hf, (fun k hk => (hl k hk).fr ((Fr.rf w h (h + 1)).up u1 (by omega) (by omega)) (by omega)), ⟨hn, by omega⟩, (fun j hj => by omega), hk⟩)

end JHIST

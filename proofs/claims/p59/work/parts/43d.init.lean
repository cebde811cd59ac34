/-! WHAT IS MADE: the constructors -/
section JINIT
theorem RepC.nf {w w' : Wd} {a b c : Nat} {S : St} (h : RepC w b S) (k : NwF w w' a c) (g : b + 9 ≤ a ∨ a + c ≤ b) : RepC w' b S := h.kept fun j hj => k.1 _ (by omega)
theorem RepR.kp {w w' : Wd} {r : Nat} (h : RepR w r) (k : ∀ j, j < 4 → w'.1 (r + j) = w.1 (r + j)) : RepR w' r := by
  obtain ⟨g1, g2, g3, a0, a1, a2, a3⟩ := h
  exact ⟨g1, g2, g3, (k 0 (by omega)).trans a0, (k 1 (by omega)).trans a1, (k 2 (by omega)).trans a2, (k 3 (by omega)).trans a3⟩
theorem RepT.kp {w w' : Wd} {u : Nat} (h : RepT w u) (k : ∀ j, j < 7 → w'.1 (u + j) = w.1 (u + j)) : RepT w' u := by
  obtain ⟨h1, h2, a0, a1, a2, a3⟩ := h
  exact ⟨h1, h2, (k 0 (by omega)).trans a0, a1.kp (fun j hj => by have := k (1 + j) (by omega); rw [show u + (1 + j) = u + 1 + j by omega] at this; exact this), (k 5 (by omega)).trans a2, (k 6 (by omega)).trans a3⟩
theorem RepH.kp {w w' : Wd} {h : Nat} {P : Nat → St} {ct : Nat} {K : St} (H : RepH w h P ct K) (k : ∀ j, j < 83 → w'.1 (h + j) = w.1 (h + j)) : RepH w' h P ct K := by
  obtain ⟨nx, sl, f, a0, a1, a2, a3, a4, a5, a6⟩ := H
  exact ⟨nx, sl, f, (k 0 (by omega)).trans a0, (k 1 (by omega)).trans a1, a2, fun i hi => (a3 i hi).kept (fun j hj => by have := k (2 + 9 * i + j) (by omega); rw [show h + (2 + 9 * i + j) = h + 2 + 9 * i + j by omega] at this; exact this), a4, a5, a6⟩
theorem RepD.kp {w w' : Wd} {c : Nat} {t : Nat → Nat} {n p : Nat} {e : Bool} {m : Nat} {x1 x2 : Int32} (h : RepD w c t n p e m x1 x2) (k : ∀ j, j < 2 → w'.1 (c + j) = w.1 (c + j)) : RepD w' c t n p e m x1 x2 := by
  obtain ⟨f, a0, a1, a2⟩ := h
  exact ⟨f, (k 0 (by omega)).trans a0, (k 1 (by omega)).trans a1, a2⟩
theorem RepO.kp {w w' : Wd} {o : Nat} {l : List Nat} (h : RepO w o l) (k : ∀ j, j < 2 → w'.1 (o + j) = w.1 (o + j)) : RepO w' o l := by
  obtain ⟨f, a0, a1, a2⟩ := h
  exact ⟨f, (k 0 (by omega)).trans a0, (k 1 (by omega)).trans a1, a2⟩
set_option maxHeartbeats 8000000 in
theorem c_X7_init {w : Wd} {a n : Nat} (hC : w.1 a = .inr (7, [.null, .null, .null])) (hn : w.2.1 = n) (ha : a + 1 = 100 + n) (hf : w.2.2 = true) : MC 3 mX7_init 6 57 [.ref a] w (RP (fun v w' => v = none ∧ NwF w w' a 7 ∧ RepT w' a)) := by
  have hn0 := hn
  refine MC_j pnX7 rfl rfl rfl (Or.inr (fun E w h => RP_no E w h)) ?_
  show J 3 mX7_init 0 [some (.ref a)] [] w 6 57 _
  refine J_aload_n dX7_init_0 rfl rfl ?_
  refine J_objInit dX7_init_1 kX7_3 (Nat.le_of_ble_eq_true rfl) (by decide) ?_
  refine J_aload_n dX7_init_4 rfl rfl ?_
  refine K_new (N := 3) (kb := 5) (sb := 54) dX7_init_5 nX7_9 hf (fun w1 u1 => ?_)
  replace hC := (u1.2.1 _ (by omega)).trans hC
  have e1 : 100 + w.2.1 = a + 1 := by omega
  rw [e1]
  have c1 := e1 ▸ u1.1
  replace hn : w1.2.1 = n + 1 := by rw [u1.2.2.1]; omega
  replace hf := u1.2.2.2
  refine J_dup dX7_init_8 rfl ?_
  refine K_callINp (kb := 2) (sb := 12) dX7_init_9 YX6_init rfl rfl kX7_11 (c_X6_init c1 hn (by omega) hf) rfl rfl (Nat.le_of_ble_eq_true rfl) (by decide) (fun v9 w9 q9 => ?_)
  obtain ⟨rfl, hN9, rR9⟩ := q9
  replace hC := (hN9.1 _ (by omega)).trans hC
  replace hn : w9.2.1 = n + 4 := by have := hN9.2.1; omega
  replace hf := hN9.2.2
  refine K_putR dX7_init_12 fX7_12 (Or.inr ⟨rfl, rfl⟩) hC (Nat.le_of_ble_eq_true rfl) (by first | exact Or.inl ⟨_, rfl⟩ | exact Or.inr ⟨_, rfl⟩) (fun w2 u2 => ?_)
  replace hC := u2.1
  replace hn := (congrArg Prod.fst u2.2.2).trans hn
  replace hf := (congrArg Prod.snd u2.2.2).trans hf
  replace hC : w2.1 a = .inr (7, [.ref (a + 1), .null, .null]) := hC
  refine J_aload_n dX7_init_15 rfl rfl ?_
  refine J_bipush (v := nI 6) dX7_init_16 (by decide) ?_
  refine K_newa_int (N := 6) (kb := 1) (sb := 6) dX7_init_18 ac_int (by decide) (Nat.le_of_ble_eq_true rfl) hf (fun w3 u3 => ?_)
  replace hC := (u3.2.1 _ (by omega)).trans hC
  have e3 : 100 + w2.2.1 = a + 5 := by omega
  rw [e3]
  have c3 := e3 ▸ u3.1
  replace hn : w3.2.1 = n + 5 := by rw [u3.2.2.1]; omega
  replace hf := u3.2.2.2
  refine K_putR dX7_init_20 fX7_18 (Or.inr ⟨rfl, rfl⟩) hC (Nat.le_of_ble_eq_true rfl) (by first | exact Or.inl ⟨_, rfl⟩ | exact Or.inr ⟨_, rfl⟩) (fun w4 u4 => ?_)
  replace c3 := (u4.2.1 _ (by omega)).trans c3
  replace hC := u4.1
  replace hn := (congrArg Prod.fst u4.2.2).trans hn
  replace hf := (congrArg Prod.snd u4.2.2).trans hf
  replace hC : w4.1 a = .inr (7, [.ref (a + 1), .ref (a + 5), .null]) := hC
  refine J_aload_n dX7_init_23 rfl rfl ?_
  refine J_bipush (v := nI 6) dX7_init_24 (by decide) ?_
  refine K_newa_int (N := 6) (kb := 0) (sb := 0) dX7_init_26 ac_int (by decide) (Nat.le_of_ble_eq_true rfl) hf (fun w5 u5 => ?_)
  replace c3 := (u5.2.1 _ (by omega)).trans c3
  replace hC := (u5.2.1 _ (by omega)).trans hC
  have e5 : 100 + w4.2.1 = a + 6 := by omega
  rw [e5]
  have c5 := e5 ▸ u5.1
  replace hn : w5.2.1 = n + 6 := by rw [u5.2.2.1]; omega
  replace hf := u5.2.2.2
  refine K_putR dX7_init_28 fX7_22 (Or.inr ⟨rfl, rfl⟩) hC (Nat.le_of_ble_eq_true rfl) (by first | exact Or.inl ⟨_, rfl⟩ | exact Or.inr ⟨_, rfl⟩) (fun w6 u6 => ?_)
  replace c3 := (u6.2.1 _ (by omega)).trans c3
  replace c5 := (u6.2.1 _ (by omega)).trans c5
  replace hC := u6.1
  replace hn := (congrArg Prod.fst u6.2.2).trans hn
  replace hf := (congrArg Prod.snd u6.2.2).trans hf
  replace hC : w6.1 a = .inr (7, [.ref (a + 1), .ref (a + 5), .ref (a + 6)]) := hC
  exact J_return dX7_init_31 rfl (RP_i ⟨rfl, ⟨fun b hb => (u6.2.1 b (by omega)).trans ((u5.2.1 b (by omega)).trans ((u4.2.1 b (by omega)).trans ((u3.2.1 b (by omega)).trans ((u2.2.1 b (by omega)).trans ((hN9.1 b (by omega)).trans ((u1.2.1 b (by omega)).trans (rfl))))))), by omega, hf⟩, _, _, hC, rR9.kp (fun j hj => (u6.2.1 _ (by omega)).trans ((u5.2.1 _ (by omega)).trans ((u4.2.1 _ (by omega)).trans ((u3.2.1 _ (by omega)).trans ((u2.2.1 _ (by omega)).trans (rfl)))))), c3, c5⟩)

end JINIT

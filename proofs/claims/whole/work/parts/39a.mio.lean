/-! THE MODEL: output, input, what is kept -/
section JMIO
def F8 (w w' : Wd) (m : Nat) : Prop := (∀ b : Nat, (b ≠ m ∧ b ≠ m + 8) → w'.1 b = w.1 b) ∧ w'.2.1 = w.2.1
theorem F8.fr {w w' : Wd} {m : Nat} (h : F8 w w' m) : Fr w w' m (m + 11) := ⟨fun b hb => h.1 b (by omega), h.2⟩
theorem F8.tr {w w1 w2 : Wd} {m : Nat} (h : F8 w w1 m) (k : F8 w1 w2 m) : F8 w w2 m := ⟨fun b hb => (k.1 b hb).trans (h.1 b hb), k.2.trans h.2⟩
/-- the output is l -/
def OuL (w : Wd) (m : Nat) (x : Nat → Int32) (l : List Nat) : Prop := w.1 m = mCell m x ∧ x 14 = nI l.length ∧ ∃ f8 : Nat → Int32, w.1 (m + 8) = .inl (0, 40, .inl f8) ∧ ∀ j, j < l.length → f8 j = nI (l.getD j 0)
def numL (k : Nat) : List Nat := if 10 ≤ k then [48 + k / 10, 48 + k % 10] else [48 + k % 10]
theorem markL_is (c k : Nat) : markL c k = c :: numL k := rfl
theorem numL_le (k : Nat) : (numL k).length ≤ 2 := by unfold numL; split <;> simp
theorem numL_ch {k : Nat} (hk : k < 100) : ∀ c ∈ numL k, c < 256 := by
  unfold numL
  split
  · intro c hc
    simp only [List.mem_cons, List.not_mem_nil, or_false] at hc
    omega
  · intro c hc
    simp only [List.mem_cons, List.not_mem_nil, or_false] at hc
    omega
theorem getD_ch {l : List Nat} (h : ∀ c ∈ l, c < 256) : ∀ j, j < l.length → l.getD j 0 < 256 := fun j hj => by
  have := h (l[j]) (List.getElem_mem hj)
  simpa [List.getD, hj] using this
theorem trL_ch {S : St} (h : WF S) {t : Nat} (ht : t < sNt S) : ∀ c ∈ trL S t, c < 256 := by
  have h1 := h.2.2.2.2.1 t ht
  have hnb := h.nb
  have hnt := h.nt
  have mk : ∀ c k, c < 256 → k < 100 → ∀ d ∈ markL c k, d < 256 := fun c k hc hk d hd => by
    rcases List.mem_cons.mp hd with rfl | hd
    · exact hc
    · exact numL_ch hk d hd
  intro c hc
  unfold trL at hc
  rcases List.mem_append.mp hc with hc | hc
  · rcases List.mem_append.mp hc with hc | hc
    · rcases List.mem_append.mp hc with hc | hc
      · rcases List.mem_append.mp hc with hc | hc
        · exact mk 84 t (by omega) (by omega) c hc
        · exact mk 64 _ (by omega) (by omega) c hc
      · split at hc
        · exact mk 43 _ (by omega) (by omega) c hc
        · cases hc
    · cases e : sGo S t with
      | none => rw [e] at hc; cases hc
      | some g =>
        rw [e] at hc
        have := h.2.2.2.2.2.1 t ht g e
        exact mk 62 g (by omega) (by omega) c hc
  · split at hc
    · simp only [List.mem_cons, List.not_mem_nil, or_false] at hc
      omega
    · cases hc
theorem siL_ch (S : St) : ∀ c ∈ siL S, c < 256 := by
  intro c hc
  unfold siL at hc
  obtain ⟨b, -, rfl⟩ := List.mem_map.mp hc
  exact sgn_lt S b
theorem c_X9_writes {w : Wd} {m : Nat} {x : Nat → Int32} {l : List Nat} (hL : OuL w m x l) (hl : l.length < 40) (c : Nat) : MC 2 mX9_writes 0 0 [.ref m, .int (nI c)] w (RP (fun v w' => v = none ∧ F8 w w' m ∧ ∃ x', OuL w' m x' (l ++ [c]) ∧ ∀ j, j ≠ 14 → x' j = x j)) := by
  obtain ⟨mO, h14, f8, m8, ho⟩ := id hL
  refine MC_j pnX9 rfl rfl rfl (Or.inr (fun E w h => RP_no E w h)) ?_
  show J 2 mX9_writes 0 [some (.ref m), some (.int (nI c))] [] w 0 0 _
  refine J_aload_n dX9_writes_0 rfl rfl ?_
  refine J_getfield dX9_writes_1 fX9_31 mO rfl ?_
  refine J_aload_n dX9_writes_4 rfl rfl ?_
  refine J_getfield dX9_writes_5 fX9_190 mO rfl ?_
  rw [h14]
  refine J_iload_n dX9_writes_8 rfl rfl ?_
  refine K_iast dX9_writes_9 m8 (by omega) (by decide) (fun w1 u1 => ?_)
  have m8 := u1.1
  have mO := (u1.2.1 _ (by omega)).trans mO
  refine J_aload_n dX9_writes_10 rfl rfl ?_
  refine J_dup dX9_writes_11 rfl ?_
  refine J_getfield dX9_writes_12 fX9_190 mO rfl ?_
  rw [h14]
  refine J_iconst (v := nI 1) dX9_writes_15 (by decide) ?_
  refine K_iadd (v := nI (l.length + 1)) dX9_writes_16 (nI_add _ _) ?_
  refine K_putI dX9_writes_17 fX9_190 (Or.inl rfl) mO (Nat.le_of_ble_eq_true rfl) (fun w2 u2 => ?_)
  have m8 := (u2.2.1 _ (by omega)).trans m8
  have mO := u2.1
  have mO : w2.1 m = .inr (9, [.int (x 0), .ref (m + 1), .ref (m + 2), .ref (m + 3), .ref (m + 4), .ref (m + 5), .int (x 6), .int (x 7), .ref (m + 6), .ref (m + 7), .ref (m + 8), .ref (m + 9), .ref (m + 10), .int (x 13), .int (nI (l.length + 1)), .int (x 15), .int (x 16), .int (x 17), .int (x 18), .int (x 19), .int (x 20), .int (x 21)]) := mO
  exact J_return dX9_writes_20 rfl (RP_i ⟨rfl, ⟨fun b hb => (u2.2.1 b hb.1).trans (u1.2.1 b hb.2), (congrArg Prod.fst u2.2.2).trans (congrArg Prod.fst u1.2.2)⟩, va_up x 14 (nI (l.length + 1)), ⟨mO, by rw [up_s, List.length_append]; rfl, _, m8, fun j hj => by
    rw [getD_app]
    rw [List.length_append] at hj
    have hj : j < l.length + 1 := hj
    by_cases e : j = l.length
    · subst e; rw [up_s, if_neg (by omega), if_pos rfl]
    · rw [up_n _ _ e, if_pos (by omega)]; exact ho j (by omega)⟩, fun j hj => up_n _ _ hj⟩)

theorem c_X9_writesNumber {w : Wd} {m : Nat} {x : Nat → Int32} {l : List Nat} (hL : OuL w m x l) (hl : l.length < 38) {k : Nat} (hk : k < 100) : MC 3 mX9_writesNumber 0 0 [.ref m, .int (nI k)] w (RP (fun v w' => v = none ∧ F8 w w' m ∧ ∃ x', OuL w' m x' (l ++ numL k) ∧ ∀ j, j ≠ 14 → x' j = x j)) := by
  have mO := hL.1
  refine MC_j pnX9 rfl rfl rfl (Or.inr (fun E w h => RP_no E w h)) ?_
  show J 3 mX9_writesNumber 0 [some (.ref m), some (.int (nI k))] [] w 0 0 _
  refine J_iload_n dX9_writesNumber_0 rfl rfl ?_
  refine J_bipush (v := nI 9) dX9_writesNumber_1 (by decide) ?_
  refine J_icmp_le (tgt := 17) dX9_writesNumber_3 (by decide) (fun h3 => ?_) (fun h3 => ?_)
  · skip
    have h3 := (nI_leI (by omega) (by omega)).mp h3
    refine J_aload_n dX9_writesNumber_17 rfl rfl ?_
    refine J_bipush (v := nI 48) dX9_writesNumber_18 (by decide) ?_
    refine J_iload_n dX9_writesNumber_20 rfl rfl ?_
    refine J_bipush (v := nI 10) dX9_writesNumber_21 (by decide) ?_
    refine K_irem (v := nI (k % 10)) dX9_writesNumber_23 (by decide) (nI_rem10 _ (by omega)) ?_
    refine K_iadd (v := nI (48 + (k % 10))) dX9_writesNumber_24 (nI_add _ _) ?_
    refine K_callVp dX9_writesNumber_25 YX9_writes kX9_193 (rc_of mO rfl) (c_X9_writes hL (by omega) _) rfl rfl (Nat.le_of_ble_eq_true rfl) (by decide) (fun v25 w25 q25 => ?_)
    obtain ⟨rfl, hF25, x25, hL25, hx25⟩ := q25
    have mO := hL25.1
    exact J_return dX9_writesNumber_28 rfl (RP_i ⟨rfl, hF25, _, (by rw [show numL k = [48 + k % 10] from if_neg (by omega)]; exact hL25), hx25⟩)
  · skip
    have h3 := mt (nI_leI (by omega) (by omega)).mpr h3
    refine J_aload_n dX9_writesNumber_6 rfl rfl ?_
    refine J_bipush (v := nI 48) dX9_writesNumber_7 (by decide) ?_
    refine J_iload_n dX9_writesNumber_9 rfl rfl ?_
    refine J_bipush (v := nI 10) dX9_writesNumber_10 (by decide) ?_
    refine K_idiv (v := nI (k / 10)) dX9_writesNumber_12 (by decide) (nI_div10 _ (by omega)) ?_
    refine K_iadd (v := nI (48 + (k / 10))) dX9_writesNumber_13 (nI_add _ _) ?_
    refine K_callVp dX9_writesNumber_14 YX9_writes kX9_193 (rc_of mO rfl) (c_X9_writes hL (by omega) _) rfl rfl (Nat.le_of_ble_eq_true rfl) (by decide) (fun v14 w14 q14 => ?_)
    obtain ⟨rfl, hF14, x14, hL14, hx14⟩ := q14
    have mO := hL14.1
    refine J_aload_n dX9_writesNumber_17 rfl rfl ?_
    refine J_bipush (v := nI 48) dX9_writesNumber_18 (by decide) ?_
    refine J_iload_n dX9_writesNumber_20 rfl rfl ?_
    refine J_bipush (v := nI 10) dX9_writesNumber_21 (by decide) ?_
    refine K_irem (v := nI (k % 10)) dX9_writesNumber_23 (by decide) (nI_rem10 _ (by omega)) ?_
    refine K_iadd (v := nI (48 + (k % 10))) dX9_writesNumber_24 (nI_add _ _) ?_
    refine K_callVp dX9_writesNumber_25 YX9_writes kX9_193 (rc_of mO rfl) (c_X9_writes hL14 (by rw [List.length_append]; show l.length + 1 < 40; omega) _) rfl rfl (Nat.le_of_ble_eq_true rfl) (by decide) (fun v25 w25 q25 => ?_)
    obtain ⟨rfl, hF25, x25, hL25, hx25⟩ := q25
    have mO := hL25.1
    exact J_return dX9_writesNumber_28 rfl (RP_i ⟨rfl, hF14.tr hF25, _, (by rw [show numL k = [48 + k / 10, 48 + k % 10] from if_pos (by omega)]; rw [List.append_assoc] at hL25; exact hL25), fun j hj => (hx25 j hj).trans (hx14 j hj)⟩)

end JMIO

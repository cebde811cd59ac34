/-! TEXTS THAT ARE CONSTANT; THE OUTPUT -/
section JTEXT
theorem SFF_co {i : Nat} (h : i < 16) : ("java/lang/String", "coder", "B", (.int 0 : Value), 20 + i) ∈ SFF := List.mem_append_right _ (List.mem_append_right _ (List.mem_append_left _ (List.mem_map.mpr ⟨i, List.mem_range.mpr h, rfl⟩)))
theorem SFF_va {i : Nat} (h : i < 16) : ("java/lang/String", "value", "[B", (.ref (50 + i) : Value), 20 + i) ∈ SFF := List.mem_append_right _ (List.mem_append_right _ (List.mem_append_right _ (List.mem_map.mpr ⟨i, List.mem_range.mpr h, rfl⟩)))
theorem SFF_or {i : Nat} (h : i < 9) : ("java/lang/Enum", "ordinal", "I", (.int (nI i) : Value), 10 + i) ∈ SFF := List.mem_append_left _ (List.mem_map.mpr ⟨i, List.mem_range.mpr h, rfl⟩)
theorem SFF_fo {i : Nat} (h : i < 9) : ("SofaRailway$Command", "form", "Ljava/lang/String;", (.ref (20 + i) : Value), 10 + i) ∈ SFF := List.mem_append_right _ (List.mem_append_left _ (List.mem_map.mpr ⟨i, List.mem_range.mpr h, rfl⟩))
theorem SFT_by {i : Nat} (h : i < 16) : ((.byte : FieldType), 50 + i, (txS i).length, (fun j => (.int ((txS i).getD j 0) : Value))) ∈ SFT := List.mem_append_right _ (List.mem_map.mpr ⟨i, List.mem_range.mpr h, rfl⟩)
theorem SFO_st {i : Nat} (h : i < 16) : ("java/lang/String", 20 + i) ∈ SFO := List.mem_append_right _ (List.mem_map.mpr ⟨i, List.mem_range.mpr h, rfl⟩)
theorem SFO_en {i : Nat} (h : i < 9) : ("SofaRailway$Command", 10 + i) ∈ SFO := List.mem_append_left _ (List.mem_map.mpr ⟨i, List.mem_range.mpr h, rfl⟩)
theorem SFZ_cs : ("java/lang/String", "COMPACT_STRINGS", "Z", (.int 1 : Value)) ∈ SFZ := List.mem_cons_of_mem _ (List.mem_cons_of_mem _ (List.mem_cons_of_mem _ (List.mem_cons_self)))
theorem sv_r {r : Nat} (h : r < 100) : sv (.ref r) = true := by unfold sv; simpa using h
theorem Rc_st {w : Wd} {i : Nat} (h : i < 16) : Rc w (20 + i) RJ0 := Or.inr (SFO_st h)
theorem tx_len : ∀ i, i < 16 → (txS i).length ≤ 9 := by decide +kernel
theorem tx_ch : ∀ i, i < 16 → ∀ k, k < 9 → (txS i).getD k 0 &&& nI 255 = (txS i).getD k 0 ∧ (((txS i).getD k 0).toUInt32 % 65536).toInt32 = (txS i).getD k 0 := by decide +kernel
theorem ishr0 : ∀ n, n < 64 → nI n >>> ((0 : Int32) &&& 31) = nI n := by decide +kernel
theorem c_coder {w : Wd} {i : Nat} (hi : i < 16) : MC 2 mJ0_coder_7d493 0 0 [.ref (20 + i)] w (RI (.int 0) w) := by
  refine MC_j pnJ0 rfl rfl rfl (Or.inr (fun E w h => by cases h.1)) ?_
  show J 2 mJ0_coder_7d493 0 [some (.ref (20 + i))] [] w 0 0 _
  refine J_getstatic dJ0_coder_7d493_0 SFZ_cs rfl gJ0_38 ?_
  refine J_if_eq (tgt := 13) dJ0_coder_7d493_3 (by decide) (fun h3 => absurd h3 (by decide)) (fun h3 => ?_)
  refine J_aload_n dJ0_coder_7d493_6 rfl rfl ?_
  refine J_sgetf dJ0_coder_7d493_7 (SFF_co hi) rfl (by omega) gJ0_15 ?_
  refine J_goto (tgt := 14) dJ0_coder_7d493_10 (by decide) ?_
  exact J_ireturn dJ0_coder_7d493_14 rfl rfl ⟨rfl, rfl⟩

theorem c_isLatin1 {w : Wd} {i : Nat} (hi : i < 16) : MC 2 mJ0_isLatin1_aae02 0 0 [.ref (20 + i)] w (RI (.int 1) w) := by
  refine MC_j pnJ0 rfl rfl rfl (Or.inr (fun E w h => by cases h.1)) ?_
  show J 2 mJ0_isLatin1_aae02 0 [some (.ref (20 + i))] [] w 0 0 _
  refine J_getstatic dJ0_isLatin1_aae02_0 SFZ_cs rfl gJ0_38 ?_
  refine J_if_eq (tgt := 17) dJ0_isLatin1_aae02_3 (by decide) (fun h3 => absurd h3 (by decide)) (fun h3 => ?_)
  refine J_aload_n dJ0_isLatin1_aae02_6 rfl rfl ?_
  refine J_sgetf dJ0_isLatin1_aae02_7 (SFF_co hi) rfl (by omega) gJ0_15 ?_
  refine J_if_ne (tgt := 17) dJ0_isLatin1_aae02_10 (by decide) (fun h10 => absurd rfl h10) (fun h10 => ?_)
  refine J_iconst (v := nI 1) dJ0_isLatin1_aae02_13 (by decide) ?_
  refine J_goto (tgt := 18) dJ0_isLatin1_aae02_14 (by decide) ?_
  exact J_ireturn dJ0_isLatin1_aae02_18 rfl rfl ⟨rfl, rfl⟩

theorem c_length {w : Wd} {i : Nat} (hi : i < 16) : MC 3 mJ0_length_8abf5 0 0 [.ref (20 + i)] w (RI (.int (nI (txS i).length)) w) := by
  refine MC_j pnJ0 rfl rfl rfl (Or.inr (fun E w h => by cases h.1)) ?_
  show J 3 mJ0_length_8abf5 0 [some (.ref (20 + i))] [] w 0 0 _
  refine J_aload_n dJ0_length_8abf5_0 rfl rfl ?_
  refine J_sgetf dJ0_length_8abf5_1 (SFF_va hi) (sv_r (by omega)) (by omega) gJ0_9 ?_
  refine J_salen dJ0_length_8abf5_4 (SFT_by hi) (by omega) rfl ?_
  refine J_aload_n dJ0_length_8abf5_5 rfl rfl ?_
  refine K_callV dJ0_length_8abf5_6 YJ0_coder_7d493 kJ0_335 (Rc_st hi) (c_coder hi) rfl rfl (Nat.le_of_ble_eq_true rfl) (by decide) ?_
  refine K_ishr (v := nI (txS i).length) dJ0_length_8abf5_9 (ishr0 _ (by have := tx_len i hi; omega)) ?_
  exact J_ireturn dJ0_length_8abf5_10 rfl rfl ⟨rfl, rfl⟩

theorem tx_nar : ∀ i, i < 16 → ∀ k, k < 9 → narrow .char (.int ((txS i).getD k 0)) = .int ((txS i).getD k 0) := fun i hi k hk => congrArg Value.int (tx_ch i hi k hk).2
theorem c_J3_checkIndex {w : Wd} {k n : Nat} {v : Value} (hv : v.category = 1) (hk : k < n) (hn : n < 2 ^ 31) : MC 2 mJ3_checkIndex_8e157 0 0 [.int (nI k), .int (nI n), v] w (RI (.int (nI k)) w) := by
  refine MC_of pnJ3 rfl (fun x hx => ?_) (Nat.le_of_ble_eq_true rfl) (Or.inr (fun E w h => by cases h.1)) ?_
  · simp at hx
    rcases hx with rfl | rfl | rfl
    · rfl
    · rfl
    · exact hv
  show J 2 mJ3_checkIndex_8e157 0 [some (.int (nI k)), some (.int (nI n)), some v] [] w 0 0 _
  refine J_iload_n dJ3_checkIndex_8e157_0 rfl rfl ?_
  refine J_if_lt (tgt := 9) dJ3_checkIndex_8e157_1 (by decide) (fun h => absurd h (nI_pos (by omega))) (fun h => ?_)
  refine J_iload_n dJ3_checkIndex_8e157_4 rfl rfl ?_
  refine J_iload_n dJ3_checkIndex_8e157_5 rfl rfl ?_
  refine J_icmp_lt (tgt := 16) dJ3_checkIndex_8e157_6 (by decide) (fun h => ?_) (fun h => absurd (nI_lt hk hn) h)
  refine J_iload_n dJ3_checkIndex_8e157_16 rfl rfl ?_
  exact J_ireturn dJ3_checkIndex_8e157_17 rfl rfl ⟨rfl, rfl⟩
theorem c_J0_checkIndex {w : Wd} {k n : Nat} (hk : k < n) (hn : n < 2 ^ 31) : MC 3 mJ0_checkIndex_df160 0 0 [.int (nI k), .int (nI n)] w (RU w) := by
  refine MC_j pnJ0 rfl rfl rfl (Or.inr (fun E w h => by cases h.1)) ?_
  show J 3 mJ0_checkIndex_df160 0 [some (.int (nI k)), some (.int (nI n))] [] w 0 0 _
  refine J_iload_n dJ0_checkIndex_df160_0 rfl rfl ?_
  refine J_iload_n dJ0_checkIndex_df160_1 rfl rfl ?_
  refine J_getsQ dJ0_checkIndex_df160_2 gJ0_1053 (fun v hv => ?_)
  refine K_callS dJ0_checkIndex_df160_5 YJ3_checkIndex_8e157 kJ0_1059 (c_J3_checkIndex hv hk hn) rfl rfl (Nat.le_of_ble_eq_true rfl) (by decide) ?_
  refine J_pop dJ0_checkIndex_df160_8 rfl ?_
  exact J_return dJ0_checkIndex_df160_9 rfl ⟨rfl, rfl⟩
theorem RU_RP {d : Nat} {mi : MI} {kb sb : Nat} {av : List Value} {w : Wd} (h : MC d mi kb sb av w (RU w)) : MC d mi kb sb av w (fun r w' => ∃ v, r = .inl v ∧ (v = none ∧ w' = w)) := MC_imp h fun r w' => ⟨fun ⟨e1, e2⟩ => ⟨none, e1, rfl, e2⟩, fun ⟨v, e1, e2, e3⟩ => ⟨by rw [e1, e2], e3⟩⟩
theorem c_J1_charAt {w : Wd} {i k : Nat} (hi : i < 16) (hk : k < (txS i).length) : MC 4 mJ1_charAt_3b067 0 0 [.ref (50 + i), .int (nI k)] w (RI (.int ((txS i).getD k 0)) w) := by
  have hl := tx_len i hi
  refine MC_j pnJ1 rfl rfl rfl (Or.inr (fun E w h => by cases h.1)) ?_
  show J 4 mJ1_charAt_3b067 0 [some (.ref (50 + i)), some (.int (nI k))] [] w 0 0 _
  refine J_iload_n dJ1_charAt_3b067_0 rfl rfl ?_
  refine J_aload_n dJ1_charAt_3b067_1 rfl rfl ?_
  refine J_salen dJ1_charAt_3b067_2 (SFT_by hi) (by omega) rfl ?_
  refine K_callSp dJ1_charAt_3b067_3 YJ0_checkIndex_df160 kJ1_9 (RU_RP (c_J0_checkIndex hk (by omega))) rfl rfl (Nat.le_of_ble_eq_true rfl) (by decide) (fun v w' q => ?_)
  obtain ⟨rfl, rfl⟩ := q
  refine J_aload_n dJ1_charAt_3b067_6 rfl rfl ?_
  refine J_iload_n dJ1_charAt_3b067_7 rfl rfl ?_
  refine J_sbald (v := .int ((txS i).getD k 0)) dJ1_charAt_3b067_8 (SFT_by hi) (by omega) (vp_in_nI hk (by omega)) (by rw [nI_clamp (by omega)]) rfl ?_
  refine J_sipush (v := nI 255) dJ1_charAt_3b067_9 (by decide) ?_
  refine K_iand dJ1_charAt_3b067_12 (tx_ch i hi k (by omega)).1 ?_
  refine J_i2c dJ1_charAt_3b067_13 (tx_ch i hi k (by omega)).2 ?_
  exact J_ireturn dJ1_charAt_3b067_14 rfl (tx_nar i hi k (by omega)) ⟨rfl, rfl⟩
theorem c_charAt {w : Wd} {i k : Nat} (hi : i < 16) (hk : k < (txS i).length) : MC 5 mJ0_charAt_5068e 0 0 [.ref (20 + i), .int (nI k)] w (RI (.int ((txS i).getD k 0)) w) := by
  have hl := tx_len i hi
  refine MC_j pnJ0 rfl rfl rfl (Or.inr (fun E w h => by cases h.1)) ?_
  show J 5 mJ0_charAt_5068e 0 [some (.ref (20 + i)), some (.int (nI k))] [] w 0 0 _
  refine J_aload_n dJ0_charAt_5068e_0 rfl rfl ?_
  refine K_callV dJ0_charAt_5068e_1 YJ0_isLatin1_aae02 kJ0_492 (Rc_st hi) (c_isLatin1 hi) rfl rfl (Nat.le_of_ble_eq_true rfl) (by decide) ?_
  refine J_if_eq (tgt := 16) dJ0_charAt_5068e_4 (by decide) (fun h => absurd h (by decide)) (fun h => ?_)
  refine J_aload_n dJ0_charAt_5068e_7 rfl rfl ?_
  refine J_sgetf dJ0_charAt_5068e_8 (SFF_va hi) (sv_r (by omega)) (by omega) gJ0_9 ?_
  refine J_iload_n dJ0_charAt_5068e_11 rfl rfl ?_
  refine K_callS dJ0_charAt_5068e_12 YJ1_charAt_3b067 kJ0_495 (c_J1_charAt hi hk) rfl rfl (Nat.le_of_ble_eq_true rfl) (by decide) ?_
  exact J_ireturn dJ0_charAt_5068e_15 rfl (tx_nar i hi k (by omega)) ⟨rfl, rfl⟩
/-- the output: a list of characters -/
def RepO (w : Wd) (o : Nat) (l : List Nat) : Prop := ∃ f : Nat → Int32, w.1 o = .inr (5, [.ref (o + 1), .int (nI l.length)]) ∧ w.1 (o + 1) = .inl (1, 14, .inl f) ∧ l.length ≤ 14 ∧ ∀ j, j < l.length → f j = nI (l.getD j 0)
theorem RepO.fr {w w' : Wd} {o lo hi : Nat} {l : List Nat} (h : RepO w o l) (k : Fr w w' lo hi) (g : o + 2 ≤ lo ∨ hi ≤ o) : RepO w' o l := by
  obtain ⟨f, a0, a1, a2⟩ := h
  exact ⟨f, (k.1 _ (by omega)).trans a0, (k.1 _ (by omega)).trans a1, a2⟩
/-- a sign and a number behind it -/
def markL (c k : Nat) : List Nat := c :: (if 10 ≤ k then [48 + k / 10, 48 + k % 10] else [48 + k % 10])
theorem getD_app {l : List Nat} {c j : Nat} : (l ++ [c]).getD j 0 = if j < l.length then l.getD j 0 else if j = l.length then c else 0 := by
  rw [List.getD_eq_getElem?_getD, List.getElem?_append]
  split
  · rw [List.getD_eq_getElem?_getD]
  · split
    · rename_i h; subst h; simp
    · rename_i h1 h2
      rw [List.getElem?_eq_none (by simp; omega)]
      rfl
def OQ (w : Wd) (o : Nat) (l : List Nat) : Po := RP (fun v w' => v = none ∧ Fr w w' o (o + 2) ∧ RepO w' o l)
end JTEXT

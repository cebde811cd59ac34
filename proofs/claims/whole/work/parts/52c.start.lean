/-! THE LAW: what holds at its start -/
section JSTART
theorem choose1 {n : Nat} {Q : Nat → Nat → Prop} (h : ∀ i, i < n → ∃ a, Q i a) : ∃ f : Nat → Nat, ∀ i, i < n → Q i (f i) :=
  ⟨fun i => if g : i < n then Classical.choose (h i g) else 0, fun i g => by dsimp only; rw [dif_pos g]; exact Classical.choose_spec (h i g)⟩
theorem choose2 {n : Nat} {Q : Nat → Nat → Nat → Prop} (h : ∀ i, i < n → ∃ a b, Q i a b) : ∃ f g : Nat → Nat, ∀ i, i < n → Q i (f i) (g i) := by
  obtain ⟨f, hf⟩ := choose1 h
  obtain ⟨g, hg⟩ := choose1 hf
  exact ⟨f, g, hg⟩
def saO (tC tS tF b : Nat) (ec st tt : Nat → Nat) : Nat → Nat := fun n => if n = 0 then tC else if n = 1 then tS else if n = 2 then tF else if n = 3 then b else if n < 20 then ec (n - 10) else if n < 50 then st (n - 20) else tt (n - 50)
theorem saO_e {tC tS tF b : Nat} {ec st tt : Nat → Nat} {j : Nat} (h : j < 9) : saO tC tS tF b ec st tt (10 + j) = ec j := by
  unfold saO
  rw [if_neg (by omega), if_neg (by omega), if_neg (by omega), if_neg (by omega), if_pos (by omega), Nat.add_sub_cancel_left]
theorem saO_s {tC tS tF b : Nat} {ec st tt : Nat → Nat} {j : Nat} (h : j < 22) : saO tC tS tF b ec st tt (20 + j) = st j := by
  unfold saO
  rw [if_neg (by omega), if_neg (by omega), if_neg (by omega), if_neg (by omega), if_neg (by omega), if_pos (by omega), Nat.add_sub_cancel_left]
theorem saO_t {tC tS tF b : Nat} {ec st tt : Nat → Nat} {j : Nat} : saO tC tS tF b ec st tt (50 + j) = tt j := by
  unfold saO
  rw [if_neg (by omega), if_neg (by omega), if_neg (by omega), if_neg (by omega), if_neg (by omega), if_neg (by omega), Nat.add_sub_cancel_left]
theorem mv_r {sa : Nat → Nat} {r : Nat} (h : r < 100) : mv sa 0 (.ref r) = .ref (sa r) := by show Value.ref (adr sa 0 r) = _; rw [adr_lt h]
theorem SF_at {args : Array Value} {s : State} (hn : ∀ c ∈ flatC (Jvm.Cond.and given_1 narrow_1), c.before args s = true) (hts : ∀ w ∈ lw_tbl, w.before args s = true) (b : Nat) : ∃ sa : Nat → Nat, sa 3 = b ∧ SF sa (Az s.heap.size) s s.heap := by
  obtain ⟨st, tt, hst⟩ := choose2 (st_all hn)
  have hs := fun i hi => (hst i hi).1
  obtain ⟨ec, hec⟩ := choose1 (en_all hn hs)
  obtain ⟨tC, hC, hCT⟩ := com_at hn (fun j hj => (hec j hj).1)
  obtain ⟨tS, hS, hST⟩ := swm_at hn
  obtain ⟨tF, hF⟩ : ∃ tF : Nat, va_Z jPre "SIOOBE_FORMATTER" jFmt .null (Az s.heap.size) s s.heap ∨ va_Z jPre "SIOOBE_FORMATTER" jFmt (.ref tF) (Az s.heap.size) s s.heap := by
    rcases va_Zqof (hts _ (T5 (List.mem_of_getElem? (i := 98) rfl))) (hts _ (T1 (List.mem_of_getElem? (i := 26) rfl))) (hn _ nw_22) (Az_no s) with h | ⟨t, h⟩
    · exact ⟨0, Or.inl h⟩
    · exact ⟨t, Or.inr h⟩
  refine ⟨saO tC tS tF b ec st tt, rfl, ?_, ?_, ?_, ?_, ?_, ?_, ?_, ?_, ?_, hF, ?_, ?_, va_AO.of (hts _ (T1 (List.mem_of_getElem? (i := 126) rfl))), ?_⟩
  · intro q hq
    simp only [SFZ, List.mem_cons, List.not_mem_nil, or_false] at hq
    rcases hq with rfl | rfl | rfl | rfl
    · rw [mv_r (by decide)]
      exact va_Zof (hts _ (T5 (List.mem_of_getElem? (i := 68) rfl))) (hts _ (T1 (List.mem_of_getElem? (i := 1) rfl))) hC (Az_no s)
    · rw [mv_r (by decide)]
      exact va_Zof (hts _ (T5 (List.mem_of_getElem? (i := 148) rfl))) (hts _ (T1 (List.mem_of_getElem? (i := 28) rfl))) hS (Az_no s)
    · rw [mv_r (by decide)]
      exact va_Zof (hts _ (T1 (List.mem_of_getElem? (i := 183) rfl))) (hts _ (T1 (List.mem_of_getElem? (i := 8) rfl))) (hec 0 (by decide)).1 (Az_no s)
    · exact va_Zof (hts _ (T5 (List.mem_of_getElem? (i := 82) rfl))) (hts _ (T1 (List.mem_of_getElem? (i := 22) rfl))) (Cond.eq_int (hn _ nw_21) rfl) (Az_no s)
  · intro q hq
    rcases List.mem_append.mp hq with hq | hq
    · simp only [List.mem_cons, List.not_mem_nil, or_false] at hq
      rcases hq with rfl | rfl
      · obtain ⟨cell, h1, h2, h3, h4, h5, h6, h7⟩ := hCT
        refine ⟨cell, h1, h2, h3, h4, h5, fun j hj => ?_, h7⟩
        have hj : j < 9 := hj
        show cell.slots[j]? = some (mv _ 0 (.ref (10 + j)))
        rw [mv_r (by omega), saO_e hj]
        exact h6 j hj
      · exact hST
    · obtain ⟨i, hi, rfl⟩ := List.mem_map.mp hq
      have hi : i < 22 := List.mem_range.mp hi
      show va_T .byte (saO tC tS tF b ec st tt (50 + i)) _ _ _ _ _
      rw [saO_t]
      exact (hst i hi).2.2.2.2
  · intro q hq
    rcases List.mem_append.mp hq with hq | hq
    · obtain ⟨j, hj, rfl⟩ := List.mem_map.mp hq
      have hj : j < 9 := List.mem_range.mp hj
      show va_O _ (saO tC tS tF b ec st tt (10 + j)) _ _ _
      rw [saO_e hj]
      exact (hec j hj).2.1
    · obtain ⟨i, hi, rfl⟩ := List.mem_map.mp hq
      have hi : i < 22 := List.mem_range.mp hi
      show va_O _ (saO tC tS tF b ec st tt (20 + i)) _ _ _
      rw [saO_s hi]
      exact (hst i hi).2.1
  · intro q hq
    rcases List.mem_append.mp hq with hq | hq
    · obtain ⟨j, hj, rfl⟩ := List.mem_map.mp hq
      have hj : j < 9 := List.mem_range.mp hj
      show va_OF _ _ _ (.int (nI j)) (saO tC tS tF b ec st tt (10 + j)) _ _ _
      rw [saO_e hj]
      exact (hec j hj).2.2.1
    · rcases List.mem_append.mp hq with hq | hq
      · obtain ⟨j, hj, rfl⟩ := List.mem_map.mp hq
        have hj : j < 9 := List.mem_range.mp hj
        show va_OF _ _ _ (mv _ 0 (.ref (20 + j))) (saO tC tS tF b ec st tt (10 + j)) _ _ _
        rw [mv_r (by omega), saO_e hj, saO_s (by omega)]
        exact (hec j hj).2.2.2
      · rcases List.mem_append.mp hq with hq | hq
        · obtain ⟨i, hi, rfl⟩ := List.mem_map.mp hq
          have hi : i < 22 := List.mem_range.mp hi
          show va_OF _ _ _ (.int 0) (saO tC tS tF b ec st tt (20 + i)) _ _ _
          rw [saO_s hi]
          exact (hst i hi).2.2.1
        · obtain ⟨i, hi, rfl⟩ := List.mem_map.mp hq
          have hi : i < 22 := List.mem_range.mp hi
          show va_OF _ _ _ (mv _ 0 (.ref (50 + i))) (saO tC tS tF b ec st tt (20 + i)) _ _ _
          rw [mv_r (by omega), saO_s hi, saO_t]
          exact (hst i hi).2.2.2.1
  · intro q hq
    simp only [SFR, List.mem_cons, List.not_mem_nil, or_false] at hq
    rcases hq with rfl | rfl | rfl | rfl | rfl | rfl | rfl | rfl | rfl | rfl | rfl | rfl | rfl
    · exact vk_R.of (hts _ (T7 (List.mem_of_getElem? (i := 169) rfl))) (hs 9 (by decide))
    · exact vk_R.of (hts _ (T7 (List.mem_of_getElem? (i := 184) rfl))) (hs 10 (by decide))
    · exact vk_R.of (hts _ (T7 (List.mem_of_getElem? (i := 185) rfl))) (hs 11 (by decide))
    · exact vk_R.of (hts _ (T7 (List.mem_of_getElem? (i := 186) rfl))) (hs 12 (by decide))
    · exact vk_R.of (hts _ (T7 (List.mem_of_getElem? (i := 187) rfl))) (hs 13 (by decide))
    · exact vk_R.of (hts _ (T7 (List.mem_of_getElem? (i := 192) rfl))) (hs 14 (by decide))
    · exact vk_R.of (hts _ (T7 (List.mem_of_getElem? (i := 193) rfl))) (hs 15 (by decide))
    · exact vk_R.of (hts _ (T7 (List.mem_of_getElem? (i := 194) rfl))) (hs 16 (by decide))
    · exact vk_R.of (hts _ (T7 (List.mem_of_getElem? (i := 195) rfl))) (hs 17 (by decide))
    · exact vk_R.of (hts _ (T7 (List.mem_of_getElem? (i := 196) rfl))) (hs 18 (by decide))
    · exact vk_R.of (hts _ (T7 (List.mem_of_getElem? (i := 197) rfl))) (hs 19 (by decide))
    · exact vk_R.of (hts _ (T7 (List.mem_of_getElem? (i := 198) rfl))) (hs 20 (by decide))
    · exact vk_R.of (hts _ (T7 (List.mem_of_getElem? (i := 199) rfl))) (hs 21 (by decide))
  · intro q hq
    simp only [SFX, List.mem_cons, List.not_mem_nil, or_false] at hq
    rcases hq with rfl | rfl | rfl | rfl | rfl | rfl | rfl | rfl | rfl | rfl | rfl | rfl | rfl | rfl | rfl | rfl
    · exact (ex_ref (hn _ nw_187)).elim fun a h => ⟨a, vk_R.of (hts _ (T2 (List.mem_of_getElem? (i := 227) rfl))) h.1⟩
    · exact (ex_ref (hn _ nw_222)).elim fun a h => ⟨a, vk_R.of (hts _ (T3 (List.mem_of_getElem? (i := 23) rfl))) h.1⟩
    · exact (ex_ref (hn _ nw_254)).elim fun a h => ⟨a, vk_R.of (hts _ (T3 (List.mem_of_getElem? (i := 39) rfl))) h.1⟩
    · exact (ex_ref (hn _ nw_298)).elim fun a h => ⟨a, vk_R.of (hts _ (T3 (List.mem_of_getElem? (i := 55) rfl))) h.1⟩
    · exact (ex_ref (hn _ nw_331)).elim fun a h => ⟨a, vk_R.of (hts _ (T3 (List.mem_of_getElem? (i := 71) rfl))) h.1⟩
    · exact (ex_ref (hn _ nw_348)).elim fun a h => ⟨a, vk_R.of (hts _ (T3 (List.mem_of_getElem? (i := 186) rfl))) h.1⟩
    · exact (ex_ref (hn _ nw_374)).elim fun a h => ⟨a, vk_R.of (hts _ (T4 (List.mem_of_getElem? (i := 35) rfl))) h.1⟩
    · exact (ex_ref (hn _ nw_400)).elim fun a h => ⟨a, vk_R.of (hts _ (T4 (List.mem_of_getElem? (i := 214) rfl))) h.1⟩
    · exact (ex_ref (hn _ nw_425)).elim fun a h => ⟨a, vk_R.of (hts _ (T5 (List.mem_of_getElem? (i := 2) rfl))) h.1⟩
    · exact (ex_ref (hn _ nw_448)).elim fun a h => ⟨a, vk_R.of (hts _ (T5 (List.mem_of_getElem? (i := 15) rfl))) h.1⟩
    · exact (ex_ref (hn _ nw_471)).elim fun a h => ⟨a, vk_R.of (hts _ (T5 (List.mem_of_getElem? (i := 35) rfl))) h.1⟩
    · exact (ex_ref (hn _ nw_501)).elim fun a h => ⟨a, vk_R.of (hts _ (T5 (List.mem_of_getElem? (i := 47) rfl))) h.1⟩
    · exact (ex_ref (hn _ nw_529)).elim fun a h => ⟨a, vk_R.of (hts _ (T5 (List.mem_of_getElem? (i := 140) rfl))) h.1⟩
    · exact (ex_ref (hn _ nw_554)).elim fun a h => ⟨a, vk_R.of (hts _ (T5 (List.mem_of_getElem? (i := 159) rfl))) h.1⟩
    · exact (ex_ref (hn _ nw_574)).elim fun a h => ⟨a, vk_R.of (hts _ (T5 (List.mem_of_getElem? (i := 181) rfl))) h.1⟩
    · exact (ex_ref (hn _ nw_602)).elim fun a h => ⟨a, vk_R.of (hts _ (T5 (List.mem_of_getElem? (i := 193) rfl))) h.1⟩
  · intro q hq
    simp only [SFM, List.mem_cons, List.not_mem_nil, or_false] at hq
    rcases hq with rfl | rfl | rfl | rfl | rfl | rfl | rfl | rfl | rfl | rfl
    · exact va_Nw.of rfl (hts _ (T1 (List.mem_of_getElem? (i := 39) rfl)))
    · exact va_Nw.of rfl (hts _ (T1 (List.mem_of_getElem? (i := 127) rfl)))
    · exact va_Nw.of rfl (hts _ (T1 (List.mem_of_getElem? (i := 141) rfl)))
    · exact va_Nw.of rfl (hts _ (T1 (List.mem_of_getElem? (i := 160) rfl)))
    · exact va_Nw.of rfl (hts _ (T1 (List.mem_of_getElem? (i := 165) rfl)))
    · exact va_Nw.of rfl (hts _ (T1 (List.mem_of_getElem? (i := 178) rfl)))
    · exact va_Nw.of rfl (hts _ (T1 (List.mem_of_getElem? (i := 213) rfl)))
    · exact va_Nw.of rfl (hts _ (T2 (List.mem_of_getElem? (i := 32) rfl)))
    · exact va_Nw.of rfl (hts _ (T2 (List.mem_of_getElem? (i := 42) rfl)))
    · exact va_Nw.of rfl (hts _ (T2 (List.mem_of_getElem? (i := 71) rfl)))
  · intro q hq
    simp only [SFG, List.mem_cons, List.not_mem_nil, or_false] at hq
    subst hq
    exact va_Nw.of rfl (hts _ (T5 (List.mem_of_getElem? (i := 67) rfl)))
  · intro q hq
    simp only [SFC, List.mem_cons, List.not_mem_nil, or_false] at hq
    rcases hq with rfl | rfl | rfl | rfl | rfl | rfl | rfl | rfl | rfl | rfl | rfl | rfl | rfl | rfl | rfl | rfl | rfl | rfl | rfl | rfl | rfl | rfl | rfl | rfl | rfl | rfl | rfl | rfl | rfl | rfl | rfl | rfl | rfl | rfl | rfl
    · exact va_Nc.of (hn _ nw_107)
    · exact va_Nc.of (hn _ nw_108)
    · exact va_Nc.of (hn _ nw_109)
    · exact va_Nc.of (hn _ nw_110)
    · exact va_Nc.of (hn _ nw_111)
    · exact va_Nc.of (hn _ nw_112)
    · exact va_Nc.of (hn _ nw_122)
    · exact va_Nc.of (hn _ nw_123)
    · exact va_Nc.of (hn _ nw_124)
    · exact va_Nc.of (hn _ nw_125)
    · exact va_Nc.of (hn _ nw_126)
    · exact va_Nc.of (hn _ nw_127)
    · exact va_Nc.of (hn _ nw_137)
    · exact va_Nc.of (hn _ nw_138)
    · exact va_Nc.of (hn _ nw_139)
    · exact va_Nc.of (hn _ nw_140)
    · exact va_Nc.of (hn _ nw_141)
    · exact va_Nc.of (hn _ nw_151)
    · exact va_Nc.of (hn _ nw_152)
    · exact va_Nc.of (hn _ nw_153)
    · exact va_Nc.of (hn _ nw_154)
    · exact va_Nc.of (hn _ nw_155)
    · exact va_Nc.of (hn _ nw_156)
    · exact va_Nc.of (hn _ nw_166)
    · exact va_Nc.of (hn _ nw_167)
    · exact va_Nc.of (hn _ nw_168)
    · exact va_Nc.of (hn _ nw_169)
    · exact va_Nc.of (hn _ nw_170)
    · exact va_Nc.of (hn _ nw_171)
    · exact va_Nc.of (hn _ nw_181)
    · exact va_Nc.of (hn _ nw_182)
    · exact va_Nc.of (hn _ nw_183)
    · exact va_Nc.of (hn _ nw_184)
    · exact va_Nc.of (hn _ nw_185)
    · exact va_Nc.of (hn _ nw_186)
  · exact vx_Zqof (hts _ (T2 (List.mem_of_getElem? (i := 209) rfl))) (hts _ (T1 (List.mem_of_getElem? (i := 12) rfl))) (hn _ nw_5) (Az_no s)
  · exact vx_Zqof (hts _ (T2 (List.mem_of_getElem? (i := 211) rfl))) (hts _ (T1 (List.mem_of_getElem? (i := 12) rfl))) (hn _ nw_6) (Az_no s)
  · intro w hw
    obtain ⟨h1, h2⟩ := List.mem_filter.mp hw
    rcases isDC_cases h2 with ⟨x, rfl⟩ | ⟨a, b, rfl⟩
    · exact va_Nw.of rfl (hts _ h1)
    · exact va_Nw.of rfl (hts _ h1)
end JSTART

/-! THE LAW: what holds at its start -/
section JSTART
theorem choose1 {n : Nat} {Q : Nat → Nat → Prop} (h : ∀ i, i < n → ∃ a, Q i a) : ∃ f : Nat → Nat, ∀ i, i < n → Q i (f i) :=
  ⟨fun i => if g : i < n then Classical.choose (h i g) else 0, fun i g => by dsimp only; rw [dif_pos g]; exact Classical.choose_spec (h i g)⟩
theorem choose2 {n : Nat} {Q : Nat → Nat → Nat → Prop} (h : ∀ i, i < n → ∃ a b, Q i a b) : ∃ f g : Nat → Nat, ∀ i, i < n → Q i (f i) (g i) := by
  obtain ⟨f, hf⟩ := choose1 h
  obtain ⟨g, hg⟩ := choose1 hf
  exact ⟨f, g, hg⟩
def saO (tC tS tF b tO tN : Nat) (ec st tt : Nat → Nat) : Nat → Nat := fun n => if n = 0 then tC else if n = 1 then tS else if n = 2 then tF else if n = 3 then b else if n = 4 then tO else if n = 5 then tN else if n < 20 then ec (n - 10) else if n < 50 then st (n - 20) else tt (n - 50)
theorem saO_e {tC tS tF b tO tN : Nat} {ec st tt : Nat → Nat} {j : Nat} (h : j < 9) : saO tC tS tF b tO tN ec st tt (10 + j) = ec j := by
  unfold saO
  rw [if_neg (by omega), if_neg (by omega), if_neg (by omega), if_neg (by omega), if_neg (by omega), if_neg (by omega), if_pos (by omega), Nat.add_sub_cancel_left]
theorem saO_s {tC tS tF b tO tN : Nat} {ec st tt : Nat → Nat} {j : Nat} (h : j < 16) : saO tC tS tF b tO tN ec st tt (20 + j) = st j := by
  unfold saO
  rw [if_neg (by omega), if_neg (by omega), if_neg (by omega), if_neg (by omega), if_neg (by omega), if_neg (by omega), if_neg (by omega), if_pos (by omega), Nat.add_sub_cancel_left]
theorem saO_t {tC tS tF b tO tN : Nat} {ec st tt : Nat → Nat} {j : Nat} : saO tC tS tF b tO tN ec st tt (50 + j) = tt j := by
  unfold saO
  rw [if_neg (by omega), if_neg (by omega), if_neg (by omega), if_neg (by omega), if_neg (by omega), if_neg (by omega), if_neg (by omega), if_neg (by omega), Nat.add_sub_cancel_left]
theorem mv_r {sa : Nat → Nat} {r : Nat} (h : r < 100) : mv sa 0 (.ref r) = .ref (sa r) := by show Value.ref (adr sa 0 r) = _; rw [adr_lt h]
theorem SF_at {args : Array Value} {s : State} (hn : ∀ c ∈ flatC (Jvm.Cond.and given_1 narrow_1), c.before args s = true) (hts : ∀ w ∈ lw_tbl, w.before args s = true) {b L : Nat} {xs : Nat → Int32} (hL : L ≤ 260) (hX : va_X b L xs s s.heap) (hbl : b < s.heap.size) : ∃ sa : Nat → Nat, sa 3 = b ∧ SF sa (Az s.heap.size) s s.heap := by
  obtain ⟨st, tt, hst⟩ := choose2 (st_all hn)
  have hs := fun i hi => (hst i hi).1
  obtain ⟨ec, hec⟩ := choose1 (en_all hn hs)
  obtain ⟨tC, hC, hCT⟩ := com_at hn (fun j hj => (hec j hj).1)
  obtain ⟨tS, hS, hST⟩ := swm_at hn
  obtain ⟨tO, hO1, hO2⟩ := dig1_at hn
  obtain ⟨tN, hN1, hN2⟩ := dig2_at hn
  obtain ⟨tF, hF⟩ : ∃ tF : Nat, va_Z jPre "SIOOBE_FORMATTER" jFmt .null (Az s.heap.size) s s.heap ∨ va_Z jPre "SIOOBE_FORMATTER" jFmt (.ref tF) (Az s.heap.size) s s.heap := by
    rcases va_Zqof (hts _ (T4 (List.mem_of_getElem? (i := 86) rfl))) (hts _ (T1 (List.mem_of_getElem? (i := 29) rfl))) (hn _ nw_8) (Az_no s) with h | ⟨t, h⟩
    · exact ⟨0, Or.inl h⟩
    · exact ⟨t, Or.inr h⟩
  refine ⟨saO tC tS tF b tO tN ec st tt, rfl, ?_, ?_, ?_, ?_, ?_, ?_, ?_, ?_, ?_, hF, ?_, ?_, va_AO.of (hts _ (T1 (List.mem_of_getElem? (i := 129) rfl))), ?_, L, xs, hL, ?_, ?_⟩
  · intro q hq
    simp only [SFZ, List.mem_cons, List.not_mem_nil, or_false] at hq
    rcases hq with rfl | rfl | rfl | rfl | rfl | rfl
    · rw [mv_r (by decide)]
      exact va_Zof (hts _ (T5 (List.mem_of_getElem? (i := 56) rfl))) (hts _ (T1 (List.mem_of_getElem? (i := 1) rfl))) hC (Az_no s)
    · rw [mv_r (by decide)]
      exact va_Zof (hts _ (T5 (List.mem_of_getElem? (i := 88) rfl))) (hts _ (T1 (List.mem_of_getElem? (i := 31) rfl))) hS (Az_no s)
    · rw [mv_r (by decide)]
      exact va_Zof (hts _ (T1 (List.mem_of_getElem? (i := 186) rfl))) (hts _ (T1 (List.mem_of_getElem? (i := 8) rfl))) (hec 0 (by decide)).1 (Az_no s)
    · exact va_Zof (hts _ (T4 (List.mem_of_getElem? (i := 4) rfl))) (hts _ (T1 (List.mem_of_getElem? (i := 15) rfl))) (Cond.eq_int (hn _ nw_7) rfl) (Az_no s)
    · rw [mv_r (by decide)]
      exact va_Zof (hts _ (T4 (List.mem_of_getElem? (i := 156) rfl))) (hts _ (T1 (List.mem_of_getElem? (i := 23) rfl))) hO1 (Az_no s)
    · rw [mv_r (by decide)]
      exact va_Zof (hts _ (T4 (List.mem_of_getElem? (i := 158) rfl))) (hts _ (T1 (List.mem_of_getElem? (i := 23) rfl))) hN1 (Az_no s)
  · intro q hq
    rcases List.mem_append.mp hq with hq | hq
    · simp only [List.mem_cons, List.not_mem_nil, or_false] at hq
      rcases hq with rfl | rfl | rfl | rfl
      · obtain ⟨cell, h1, h2, h3, h4, h5, h6, h7⟩ := hCT
        refine ⟨cell, h1, h2, h3, h4, h5, fun j hj => ?_, h7⟩
        have hj : j < 9 := hj
        show cell.slots[j]? = some (mv _ 0 (.ref (10 + j)))
        rw [mv_r (by omega), saO_e hj]
        exact h6 j hj
      · exact hST
      · exact hO2
      · exact hN2
    · obtain ⟨i, hi, rfl⟩ := List.mem_map.mp hq
      have hi : i < 16 := List.mem_range.mp hi
      show va_T .byte (saO tC tS tF b tO tN ec st tt (50 + i)) _ _ _ _ _
      rw [saO_t]
      exact (hst i hi).2.2.2.2
  · intro q hq
    rcases List.mem_append.mp hq with hq | hq
    · obtain ⟨j, hj, rfl⟩ := List.mem_map.mp hq
      have hj : j < 9 := List.mem_range.mp hj
      show va_O _ (saO tC tS tF b tO tN ec st tt (10 + j)) _ _ _
      rw [saO_e hj]
      exact (hec j hj).2.1
    · obtain ⟨i, hi, rfl⟩ := List.mem_map.mp hq
      have hi : i < 16 := List.mem_range.mp hi
      show va_O _ (saO tC tS tF b tO tN ec st tt (20 + i)) _ _ _
      rw [saO_s hi]
      exact (hst i hi).2.1
  · intro q hq
    rcases List.mem_append.mp hq with hq | hq
    · obtain ⟨j, hj, rfl⟩ := List.mem_map.mp hq
      have hj : j < 9 := List.mem_range.mp hj
      show va_OF _ _ _ (.int (nI j)) (saO tC tS tF b tO tN ec st tt (10 + j)) _ _ _
      rw [saO_e hj]
      exact (hec j hj).2.2.1
    · rcases List.mem_append.mp hq with hq | hq
      · obtain ⟨j, hj, rfl⟩ := List.mem_map.mp hq
        have hj : j < 9 := List.mem_range.mp hj
        show va_OF _ _ _ (mv _ 0 (.ref (20 + j))) (saO tC tS tF b tO tN ec st tt (10 + j)) _ _ _
        rw [mv_r (by omega), saO_e hj, saO_s (by omega)]
        exact (hec j hj).2.2.2
      · rcases List.mem_append.mp hq with hq | hq
        · obtain ⟨i, hi, rfl⟩ := List.mem_map.mp hq
          have hi : i < 16 := List.mem_range.mp hi
          show va_OF _ _ _ (.int 0) (saO tC tS tF b tO tN ec st tt (20 + i)) _ _ _
          rw [saO_s hi]
          exact (hst i hi).2.2.1
        · obtain ⟨i, hi, rfl⟩ := List.mem_map.mp hq
          have hi : i < 16 := List.mem_range.mp hi
          show va_OF _ _ _ (mv _ 0 (.ref (50 + i))) (saO tC tS tF b tO tN ec st tt (20 + i)) _ _ _
          rw [mv_r (by omega), saO_s hi, saO_t]
          exact (hst i hi).2.2.2.1
  · intro q hq
    simp only [SFR, List.mem_cons, List.not_mem_nil, or_false] at hq
    rcases hq with rfl | rfl | rfl | rfl | rfl | rfl | rfl
    · exact vk_R.of (hts _ (T4 (List.mem_of_getElem? (i := 25) rfl))) (hs 9 (by decide))
    · exact vk_R.of (hts _ (T4 (List.mem_of_getElem? (i := 167) rfl))) (hs 10 (by decide))
    · exact vk_R.of (hts _ (T4 (List.mem_of_getElem? (i := 168) rfl))) (hs 11 (by decide))
    · exact vk_R.of (hts _ (T4 (List.mem_of_getElem? (i := 232) rfl))) (hs 12 (by decide))
    · exact vk_R.of (hts _ (T4 (List.mem_of_getElem? (i := 233) rfl))) (hs 13 (by decide))
    · exact vk_R.of (hts _ (T4 (List.mem_of_getElem? (i := 234) rfl))) (hs 14 (by decide))
    · exact vk_R.of (hts _ (T4 (List.mem_of_getElem? (i := 235) rfl))) (hs 15 (by decide))
  · intro q hq
    simp only [SFX, List.mem_cons, List.not_mem_nil, or_false] at hq
    rcases hq with rfl | rfl | rfl | rfl | rfl | rfl | rfl | rfl | rfl | rfl | rfl | rfl | rfl | rfl | rfl
    · exact (ex_ref (hn _ nw_467)).elim fun a h => ⟨a, vk_R.of (hts _ (T3 (List.mem_of_getElem? (i := 30) rfl))) h.1⟩
    · exact (ex_ref (hn _ nw_502)).elim fun a h => ⟨a, vk_R.of (hts _ (T3 (List.mem_of_getElem? (i := 40) rfl))) h.1⟩
    · exact (ex_ref (hn _ nw_534)).elim fun a h => ⟨a, vk_R.of (hts _ (T3 (List.mem_of_getElem? (i := 56) rfl))) h.1⟩
    · exact (ex_ref (hn _ nw_578)).elim fun a h => ⟨a, vk_R.of (hts _ (T3 (List.mem_of_getElem? (i := 72) rfl))) h.1⟩
    · exact (ex_ref (hn _ nw_425)).elim fun a h => ⟨a, vk_R.of (hts _ (T2 (List.mem_of_getElem? (i := 165) rfl))) h.1⟩
    · exact (ex_ref (hn _ nw_744)).elim fun a h => ⟨a, vk_R.of (hts _ (T5 (List.mem_of_getElem? (i := 117) rfl))) h.1⟩
    · exact (ex_ref (hn _ nw_399)).elim fun a h => ⟨a, vk_R.of (hts _ (T2 (List.mem_of_getElem? (i := 149) rfl))) h.1⟩
    · exact (ex_ref (hn _ nw_442)).elim fun a h => ⟨a, vk_R.of (hts _ (T2 (List.mem_of_getElem? (i := 179) rfl))) h.1⟩
    · exact (ex_ref (hn _ nw_770)).elim fun a h => ⟨a, vk_R.of (hts _ (T6 (List.mem_of_getElem? (i := 28) rfl))) h.1⟩
    · exact (ex_ref (hn _ nw_793)).elim fun a h => ⟨a, vk_R.of (hts _ (T6 (List.mem_of_getElem? (i := 42) rfl))) h.1⟩
    · exact (ex_ref (hn _ nw_671)).elim fun a h => ⟨a, vk_R.of (hts _ (T5 (List.mem_of_getElem? (i := 35) rfl))) h.1⟩
    · exact (ex_ref (hn _ nw_699)).elim fun a h => ⟨a, vk_R.of (hts _ (T5 (List.mem_of_getElem? (i := 80) rfl))) h.1⟩
    · exact (ex_ref (hn _ nw_724)).elim fun a h => ⟨a, vk_R.of (hts _ (T5 (List.mem_of_getElem? (i := 99) rfl))) h.1⟩
    · exact (ex_ref (hn _ nw_816)).elim fun a h => ⟨a, vk_R.of (hts _ (T6 (List.mem_of_getElem? (i := 143) rfl))) h.1⟩
    · exact (ex_ref (hn _ nw_844)).elim fun a h => ⟨a, vk_R.of (hts _ (T6 (List.mem_of_getElem? (i := 155) rfl))) h.1⟩
  · intro q hq
    simp only [SFM, List.mem_cons, List.not_mem_nil, or_false] at hq
    rcases hq with rfl | rfl | rfl | rfl | rfl | rfl | rfl | rfl | rfl | rfl
    · exact va_Nw.of rfl (hts _ (T1 (List.mem_of_getElem? (i := 43) rfl)))
    · exact va_Nw.of rfl (hts _ (T1 (List.mem_of_getElem? (i := 130) rfl)))
    · exact va_Nw.of rfl (hts _ (T1 (List.mem_of_getElem? (i := 144) rfl)))
    · exact va_Nw.of rfl (hts _ (T1 (List.mem_of_getElem? (i := 163) rfl)))
    · exact va_Nw.of rfl (hts _ (T1 (List.mem_of_getElem? (i := 168) rfl)))
    · exact va_Nw.of rfl (hts _ (T1 (List.mem_of_getElem? (i := 181) rfl)))
    · exact va_Nw.of rfl (hts _ (T1 (List.mem_of_getElem? (i := 216) rfl)))
    · exact va_Nw.of rfl (hts _ (T2 (List.mem_of_getElem? (i := 219) rfl)))
    · exact va_Nw.of rfl (hts _ (T2 (List.mem_of_getElem? (i := 224) rfl)))
    · exact va_Nw.of rfl (hts _ (T2 (List.mem_of_getElem? (i := 204) rfl)))
  · intro q hq
    simp only [SFG, List.mem_cons, List.not_mem_nil, or_false] at hq
    subst hq
    exact va_Nw.of rfl (hts _ (T5 (List.mem_of_getElem? (i := 55) rfl)))
  · intro q hq
    simp only [SFC, List.mem_cons, List.not_mem_nil, or_false] at hq
    rcases hq with rfl | rfl | rfl | rfl | rfl | rfl | rfl | rfl | rfl | rfl | rfl | rfl | rfl | rfl | rfl | rfl | rfl | rfl | rfl | rfl | rfl | rfl | rfl | rfl | rfl | rfl | rfl | rfl | rfl | rfl | rfl | rfl | rfl | rfl | rfl
    · exact va_Nc.of (hn _ nw_344)
    · exact va_Nc.of (hn _ nw_346)
    · exact va_Nc.of (hn _ nw_347)
    · exact va_Nc.of (hn _ nw_345)
    · exact va_Nc.of (hn _ nw_343)
    · exact va_Nc.of (hn _ nw_350)
    · exact va_Nc.of (hn _ nw_360)
    · exact va_Nc.of (hn _ nw_362)
    · exact va_Nc.of (hn _ nw_363)
    · exact va_Nc.of (hn _ nw_361)
    · exact va_Nc.of (hn _ nw_359)
    · exact va_Nc.of (hn _ nw_366)
    · exact va_Nc.of (hn _ nw_313)
    · exact va_Nc.of (hn _ nw_314)
    · exact va_Nc.of (hn _ nw_315)
    · exact va_Nc.of (hn _ nw_312)
    · exact va_Nc.of (hn _ nw_318)
    · exact va_Nc.of (hn _ nw_328)
    · exact va_Nc.of (hn _ nw_329)
    · exact va_Nc.of (hn _ nw_330)
    · exact va_Nc.of (hn _ nw_331)
    · exact va_Nc.of (hn _ nw_327)
    · exact va_Nc.of (hn _ nw_334)
    · exact va_Nc.of (hn _ nw_376)
    · exact va_Nc.of (hn _ nw_378)
    · exact va_Nc.of (hn _ nw_379)
    · exact va_Nc.of (hn _ nw_377)
    · exact va_Nc.of (hn _ nw_375)
    · exact va_Nc.of (hn _ nw_382)
    · exact va_Nc.of (hn _ nw_392)
    · exact va_Nc.of (hn _ nw_394)
    · exact va_Nc.of (hn _ nw_395)
    · exact va_Nc.of (hn _ nw_396)
    · exact va_Nc.of (hn _ nw_393)
    · exact va_Nc.of (hn _ nw_391)
  · exact vx_Zqof (hts _ (T2 (List.mem_of_getElem? (i := 65) rfl))) (hts _ (T1 (List.mem_of_getElem? (i := 10) rfl))) (hn _ nw_5) (Az_no s)
  · exact vx_Zqof (hts _ (T2 (List.mem_of_getElem? (i := 67) rfl))) (hts _ (T1 (List.mem_of_getElem? (i := 10) rfl))) (hn _ nw_6) (Az_no s)
  · intro w hw
    obtain ⟨h1, h2⟩ := List.mem_filter.mp hw
    rcases isDC_cases h2 with ⟨x, rfl⟩ | ⟨a, b, rfl⟩
    · exact va_Nw.of rfl (hts _ h1)
    · exact va_Nw.of rfl (hts _ h1)
  · obtain ⟨scr, a1, a2, a3, a4, a5⟩ := hX
    exact ⟨scr, a1, a2, a3, by omega, by rw [a4], a5, Nat.not_le.mpr hbl⟩
  · have h := (hts _ (T6 (List.mem_of_getElem? (i := 69) rfl)))
    exact h
end JSTART

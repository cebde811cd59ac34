/-! THE LAW: its loop -/
section JLOOP
theorem and63 (y : Int32) : ∃ k, k < 64 ∧ y &&& nI 63 = nI k := by
  refine ⟨(y.toBitVec &&& 63#32).toNat, ?_, ?_⟩
  · rw [BitVec.toNat_and]
    have h := Nat.and_le_right (n := y.toBitVec.toNat) (m := (63#32 : BitVec 32).toNat)
    have e : (63#32 : BitVec 32).toNat = 63 := rfl
    omega
  · apply Int32.toBitVec_inj.mp
    show y.toBitVec &&& (nI 63).toBitVec = BitVec.ofNat 32 _
    apply BitVec.eq_of_toNat_eq
    rw [BitVec.toNat_ofNat, Nat.mod_eq_of_lt (BitVec.isLt _)]
    rfl
theorem sub3 {N i : Nat} (hN : N < 2 ^ 31) (hi : i < 2 ^ 31) : nI N - nI 3 < nI i ↔ N < i + 3 := by
  by_cases h : 3 ≤ N
  · rw [nI_sub h]
    have := nI_ltI (a := N - 3) (b := i) (by omega) hi
    rw [this]
    omega
  · have h3 : N = 0 ∨ N = 1 ∨ N = 2 := by omega
    have g : (nI N - nI 3).toInt < 0 := by rcases h3 with rfl | rfl | rfl <;> decide
    rw [Int32.lt_iff_toInt_lt, nI_toInt hi]
    constructor
    · intro _; omega
    · intro _; omega
set_option maxRecDepth 4096 in
theorem lw_disp {sN : Nat} {sF : Nat → Int32} {w : Wd} {x m o q th i kb sb : Nat} {G : Gme} {Q : Po} {l6 l7 l8 : Option Value} (hN : sN < 2 ^ 31) (hi : i + 2 < sN) (hI : LI w x m o q G G th) (k : ∀ (w' : Wd) (G' : Gme) (th' : Nat) (l6 l7 l8 : Option Value), LI w' x m o q G' G' th' → JL sN sF 40 mL_law 2989 [some (.ref 3), some (.ref x), some (.ref m), some (.ref o), some (.ref q), some (.int (nI i)), l6, l7, l8] [] w' kb sb Q) {j : Nat} (hj : j < 64) : JL sN sF 40 mL_law 44 [some (.ref 3), some (.ref x), some (.ref m), some (.ref o), some (.ref q), some (.int (nI i)), l6, l7, l8] [.int (nI j)] w (kb + 1) (sb + 6) Q := by
  have h : j = 0 ∨ j = 1 ∨ j = 2 ∨ j = 3 ∨ j = 4 ∨ j = 5 ∨ j = 6 ∨ j = 7 ∨ j = 8 ∨ j = 9 ∨ j = 10 ∨ j = 11 ∨ j = 12 ∨ j = 13 ∨ j = 14 ∨ j = 15 ∨ j = 16 ∨ j = 17 ∨ j = 18 ∨ j = 19 ∨ j = 20 ∨ j = 21 ∨ j = 22 ∨ j = 23 ∨ j = 24 ∨ j = 25 ∨ j = 26 ∨ j = 27 ∨ j = 28 ∨ j = 29 ∨ j = 30 ∨ j = 31 ∨ j = 32 ∨ j = 33 ∨ j = 34 ∨ j = 35 ∨ j = 36 ∨ j = 37 ∨ j = 38 ∨ j = 39 ∨ j = 40 ∨ j = 41 ∨ j = 42 ∨ j = 43 ∨ j = 44 ∨ j = 45 ∨ j = 46 ∨ j = 47 ∨ j = 48 ∨ j = 49 ∨ j = 50 ∨ j = 51 ∨ j = 52 ∨ j = 53 ∨ j = 54 ∨ j = 55 ∨ 56 ≤ j := by omega
  rcases h with rfl | rfl | rfl | rfl | rfl | rfl | rfl | rfl | rfl | rfl | rfl | rfl | rfl | rfl | rfl | rfl | rfl | rfl | rfl | rfl | rfl | rfl | rfl | rfl | rfl | rfl | rfl | rfl | rfl | rfl | rfl | rfl | rfl | rfl | rfl | rfl | rfl | rfl | rfl | rfl | rfl | rfl | rfl | rfl | rfl | rfl | rfl | rfl | rfl | rfl | rfl | rfl | rfl | rfl | rfl | rfl | h
  · exact JL_tableIn (tgt := 284) (off := 240) dL_law_44 (by decide) (by decide) (by decide) (by decide) (lw_c0 hN hi hI k)
  · exact JL_tableIn (tgt := 340) (off := 296) dL_law_44 (by decide) (by decide) (by decide) (by decide) (lw_c1 hN hi hI k)
  · exact JL_tableIn (tgt := 396) (off := 352) dL_law_44 (by decide) (by decide) (by decide) (by decide) (lw_c2 hN hi hI k)
  · exact JL_tableIn (tgt := 464) (off := 420) dL_law_44 (by decide) (by decide) (by decide) (by decide) (lw_c3 hN hi hI k)
  · exact JL_tableIn (tgt := 532) (off := 488) dL_law_44 (by decide) (by decide) (by decide) (by decide) (lw_c4 hN hi hI k)
  · exact JL_tableIn (tgt := 588) (off := 544) dL_law_44 (by decide) (by decide) (by decide) (by decide) (lw_c5 hN hi hI k)
  · exact JL_tableIn (tgt := 644) (off := 600) dL_law_44 (by decide) (by decide) (by decide) (by decide) (lw_c6 hN hi hI k)
  · exact JL_tableIn (tgt := 657) (off := 613) dL_law_44 (by decide) (by decide) (by decide) (by decide) (lw_c7 hN hi hI k)
  · exact JL_tableIn (tgt := 713) (off := 669) dL_law_44 (by decide) (by decide) (by decide) (by decide) (lw_c8 hN hi hI k)
  · exact JL_tableIn (tgt := 776) (off := 732) dL_law_44 (by decide) (by decide) (by decide) (by decide) (lw_c9 hN hi hI k)
  · exact JL_tableIn (tgt := 839) (off := 795) dL_law_44 (by decide) (by decide) (by decide) (by decide) (lw_c10 hN hi hI k)
  · exact JL_tableIn (tgt := 914) (off := 870) dL_law_44 (by decide) (by decide) (by decide) (by decide) (lw_c11 hN hi hI k)
  · exact JL_tableIn (tgt := 970) (off := 926) dL_law_44 (by decide) (by decide) (by decide) (by decide) (lw_c12 hN hi hI k)
  · exact JL_tableIn (tgt := 1026) (off := 982) dL_law_44 (by decide) (by decide) (by decide) (by decide) (lw_c13 hN hi hI k)
  · exact JL_tableIn (tgt := 1082) (off := 1038) dL_law_44 (by decide) (by decide) (by decide) (by decide) (lw_c14 hN hi hI k)
  · exact JL_tableIn (tgt := 1138) (off := 1094) dL_law_44 (by decide) (by decide) (by decide) (by decide) (lw_c15 hN hi hI k)
  · exact JL_tableIn (tgt := 1206) (off := 1162) dL_law_44 (by decide) (by decide) (by decide) (by decide) (lw_c16 hN hi hI k)
  · exact JL_tableIn (tgt := 1274) (off := 1230) dL_law_44 (by decide) (by decide) (by decide) (by decide) (lw_c17 hN hi hI k)
  · exact JL_tableIn (tgt := 1330) (off := 1286) dL_law_44 (by decide) (by decide) (by decide) (by decide) (lw_c18 hN hi hI k)
  · exact JL_tableIn (tgt := 1343) (off := 1299) dL_law_44 (by decide) (by decide) (by decide) (by decide) (lw_c19 hN hi hI k)
  · exact JL_tableIn (tgt := 1356) (off := 1312) dL_law_44 (by decide) (by decide) (by decide) (by decide) (lw_c20 hN hi hI k)
  · exact JL_tableIn (tgt := 1412) (off := 1368) dL_law_44 (by decide) (by decide) (by decide) (by decide) (lw_c21 hN hi hI k)
  · exact JL_tableIn (tgt := 1480) (off := 1436) dL_law_44 (by decide) (by decide) (by decide) (by decide) (lw_c22 hN hi hI k)
  · exact JL_tableIn (tgt := 1548) (off := 1504) dL_law_44 (by decide) (by decide) (by decide) (by decide) (lw_c23 hN hi hI k)
  · exact JL_tableIn (tgt := 1604) (off := 1560) dL_law_44 (by decide) (by decide) (by decide) (by decide) (lw_c24 hN hi hI k)
  · exact JL_tableIn (tgt := 1672) (off := 1628) dL_law_44 (by decide) (by decide) (by decide) (by decide) (lw_c25 hN hi hI k)
  · exact JL_tableIn (tgt := 1728) (off := 1684) dL_law_44 (by decide) (by decide) (by decide) (by decide) (lw_c26 hN hi hI k)
  · exact JL_tableIn (tgt := 1784) (off := 1740) dL_law_44 (by decide) (by decide) (by decide) (by decide) (lw_c27 hN hi hI k)
  · exact JL_tableIn (tgt := 1797) (off := 1753) dL_law_44 (by decide) (by decide) (by decide) (by decide) (lw_c28 hN hi hI k)
  · exact JL_tableIn (tgt := 1853) (off := 1809) dL_law_44 (by decide) (by decide) (by decide) (by decide) (lw_c29 hN hi hI k)
  · exact JL_tableIn (tgt := 1909) (off := 1865) dL_law_44 (by decide) (by decide) (by decide) (by decide) (lw_c30 hN hi hI k)
  · exact JL_tableIn (tgt := 1965) (off := 1921) dL_law_44 (by decide) (by decide) (by decide) (by decide) (lw_c31 hN hi hI k)
  · exact JL_tableIn (tgt := 2021) (off := 1977) dL_law_44 (by decide) (by decide) (by decide) (by decide) (lw_c32 hN hi hI k)
  · exact JL_tableIn (tgt := 2084) (off := 2040) dL_law_44 (by decide) (by decide) (by decide) (by decide) (lw_c33 hN hi hI k)
  · exact JL_tableIn (tgt := 2140) (off := 2096) dL_law_44 (by decide) (by decide) (by decide) (by decide) (lw_c34 hN hi hI k)
  · exact JL_tableIn (tgt := 2196) (off := 2152) dL_law_44 (by decide) (by decide) (by decide) (by decide) (lw_c35 hN hi hI k)
  · exact JL_tableIn (tgt := 2252) (off := 2208) dL_law_44 (by decide) (by decide) (by decide) (by decide) (lw_c36 hN hi hI k)
  · exact JL_tableIn (tgt := 2265) (off := 2221) dL_law_44 (by decide) (by decide) (by decide) (by decide) (lw_c37 hN hi hI k)
  · exact JL_tableIn (tgt := 2278) (off := 2234) dL_law_44 (by decide) (by decide) (by decide) (by decide) (lw_c38 hN hi hI k)
  · exact JL_tableIn (tgt := 2334) (off := 2290) dL_law_44 (by decide) (by decide) (by decide) (by decide) (lw_c39 hN hi hI k)
  · exact JL_tableIn (tgt := 2347) (off := 2303) dL_law_44 (by decide) (by decide) (by decide) (by decide) (lw_c40 hN hi hI k)
  · exact JL_tableIn (tgt := 2360) (off := 2316) dL_law_44 (by decide) (by decide) (by decide) (by decide) (lw_c41 hN hi hI k)
  · exact JL_tableIn (tgt := 2416) (off := 2372) dL_law_44 (by decide) (by decide) (by decide) (by decide) (lw_c42 hN hi hI k)
  · exact JL_tableIn (tgt := 2481) (off := 2437) dL_law_44 (by decide) (by decide) (by decide) (by decide) (lw_c43 hN hi hI k)
  · exact JL_tableIn (tgt := 2547) (off := 2503) dL_law_44 (by decide) (by decide) (by decide) (by decide) (lw_c44 hN hi hI k)
  · exact JL_tableIn (tgt := 2603) (off := 2559) dL_law_44 (by decide) (by decide) (by decide) (by decide) (lw_c45 hN hi hI k)
  · exact JL_tableIn (tgt := 2616) (off := 2572) dL_law_44 (by decide) (by decide) (by decide) (by decide) (lw_c46 hN hi hI k)
  · exact JL_tableIn (tgt := 2672) (off := 2628) dL_law_44 (by decide) (by decide) (by decide) (by decide) (lw_c47 hN hi hI k)
  · exact JL_tableIn (tgt := 2685) (off := 2641) dL_law_44 (by decide) (by decide) (by decide) (by decide) (lw_c48 hN hi hI k)
  · exact JL_tableIn (tgt := 2743) (off := 2699) dL_law_44 (by decide) (by decide) (by decide) (by decide) (lw_c49 hN hi hI k)
  · exact JL_tableIn (tgt := 2787) (off := 2743) dL_law_44 (by decide) (by decide) (by decide) (by decide) (lw_c50 hN hi hI k)
  · exact JL_tableIn (tgt := 2831) (off := 2787) dL_law_44 (by decide) (by decide) (by decide) (by decide) (lw_c51 hN hi hI k)
  · exact JL_tableIn (tgt := 2875) (off := 2831) dL_law_44 (by decide) (by decide) (by decide) (by decide) (lw_c52 hN hi hI k)
  · exact JL_tableIn (tgt := 2919) (off := 2875) dL_law_44 (by decide) (by decide) (by decide) (by decide) (lw_c53 hN hi hI k)
  · exact JL_tableIn (tgt := 2932) (off := 2888) dL_law_44 (by decide) (by decide) (by decide) (by decide) (lw_c54 hN hi hI k)
  · exact JL_tableIn (tgt := 2945) (off := 2901) dL_law_44 (by decide) (by decide) (by decide) (by decide) (lw_c55 hN hi hI k)
  · refine JL_tableOut (tgt := 2989) dL_law_44 (Or.inr ?_) (by decide) ?_
    · rw [nI_toInt (by omega)]
      omega
    · intro p l e R s m' args below meth c z sa D dA Z mc ms C hZ h1 h2 h3 h4 h5 H locs cells slots ls hR hS hl h6 h7
      exact k w G th l6 l7 l8 hI p l e R s m' args below meth c z sa D dA Z mc ms C hZ h1 h2 h3 h4 h5 H locs cells slots ls hR hS hl (by omega) (by omega)
end JLOOP

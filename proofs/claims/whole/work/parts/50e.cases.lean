/-! THE LAW: its cases -/
section JCASES
theorem lw_c30 {sN : Nat} {sF : Nat → Int32} {w : Wd} {x m o q th i kb sb : Nat} {G : Gme} {Q : Po} {l6 l7 l8 : Option Value} (hN : sN < 2 ^ 31) (hi : i + 2 < sN) (hI : LI w x m o q G G th) (k : ∀ (w' : Wd) (G' : Gme) (th' : Nat) (l6 l7 l8 : Option Value), LI w' x m o q G' G' th' → JL sN sF 40 mL_law 2989 [some (.ref 3), some (.ref x), some (.ref m), some (.ref o), some (.ref q), some (.int (nI i)), l6, l7, l8] [] w' kb sb Q) : JL sN sF 40 mL_law 1909 [some (.ref 3), some (.ref x), some (.ref m), some (.ref o), some (.ref q), some (.int (nI i)), l6, l7, l8] [] w (kb + 1) (sb + 6) Q := by
  refine JL_aload_n dL_law_1909 rfl rfl ?_
  refine JL_aload_n dL_law_1910 rfl rfl ?_
  refine JL_iload dL_law_1911 rfl ?_
  refine JL_iconst (v := nI 1) dL_law_1913 (by decide) ?_
  refine JL_iadd dL_law_1914 ?_
  refine JL_scg dL_law_1915 (scIn (by omega) hN) ?_
  refine JL_aload_n dL_law_1916 rfl rfl ?_
  refine JL_help (mi := mL_law) (pc := 1917) dL_law_1917 rfl YL_remainingTicks kL_267 hI (fun g0 h1 h2 => c_L_remainingTicks hI.1 h1 h2 _) rfl rfl (Nat.le_of_ble_eq_true rfl) (by decide) (fun w1 g hg h0 hI1 => ?_)
  refine JL_istore dL_law_1920 (by decide) rfl ?_
  refine JL_aload_n dL_law_1922 rfl rfl ?_
  refine JL_aload_n dL_law_1923 rfl rfl ?_
  refine JL_iload dL_law_1924 rfl ?_
  refine JL_iconst (v := nI 1) dL_law_1926 (by decide) ?_
  refine JL_iadd dL_law_1927 ?_
  refine JL_scg dL_law_1928 (scIn (by omega) hN) ?_
  refine JL_mod (mi := mL_law) (pc := 1929) dL_law_1929 YX9_remainingTicks rfl kL_269 hI1 hg (fun h => c_X9_remainingTicks h _) rfl rfl (Nat.le_of_ble_eq_true rfl) (by decide) (fun w2 z hz hI2 hO2 => ?_)
  refine JL_istore dL_law_1932 (by decide) rfl ?_
  refine JL_aload_n dL_law_1934 rfl rfl ?_
  refine JL_thr (mi := mL_law) (pc := 1935) dL_law_1935 YX9_thrown rfl kL_172 hI2 (fun h => c_X9_thrown h) rfl (Nat.le_of_ble_eq_true rfl) (by decide) ?_
  refine JL_iload dL_law_1938 rfl ?_
  refine JL_icmp_eq (tgt := 1945) dL_law_1940 (by decide) (fun _ => ?_) (fun h => absurd rfl h)
  refine JL_iload dL_law_1945 rfl ?_
  refine JL_if_ne (tgt := 1962) dL_law_1947 (by decide) (fun _ => ?_) (fun h => ?_)
  · exact JL_goto (tgt := 2989) dL_law_1962 (by decide) (k _ _ _ _ _ _ hI2)
  · have e0 := cod_0.mp ((nI_eq (b := 0) (cod_lt _ (by decide)) (by decide)).mp h)
    have hz0 := hz e0
    have hg0 := h0 e0
    refine JL_aload_n dL_law_1950 rfl rfl ?_
    refine JL_iconst (v := nI 0) dL_law_1951 (by decide) ?_
    refine KL_lald (v := g 0) dL_law_1952 hO2 (by decide) (by decide) rfl ?_
    refine JL_iload dL_law_1953 rfl ?_
    refine JL_i2l dL_law_1955 rfl ?_
    refine JL_lcmp dL_law_1956 ?_
    exact JL_if_eq (tgt := 1962) dL_law_1957 (by decide) (fun _ => JL_goto (tgt := 2989) dL_law_1962 (by decide) (k _ _ _ _ _ _ hI2)) (fun h => absurd (lgc_eq (by rw [hg0, hz0])) h)
theorem lw_c31 {sN : Nat} {sF : Nat → Int32} {w : Wd} {x m o q th i kb sb : Nat} {G : Gme} {Q : Po} {l6 l7 l8 : Option Value} (hN : sN < 2 ^ 31) (hi : i + 2 < sN) (hI : LI w x m o q G G th) (k : ∀ (w' : Wd) (G' : Gme) (th' : Nat) (l6 l7 l8 : Option Value), LI w' x m o q G' G' th' → JL sN sF 40 mL_law 2989 [some (.ref 3), some (.ref x), some (.ref m), some (.ref o), some (.ref q), some (.int (nI i)), l6, l7, l8] [] w' kb sb Q) : JL sN sF 40 mL_law 1965 [some (.ref 3), some (.ref x), some (.ref m), some (.ref o), some (.ref q), some (.int (nI i)), l6, l7, l8] [] w (kb + 1) (sb + 6) Q := by
  refine JL_aload_n dL_law_1965 rfl rfl ?_
  refine JL_aload_n dL_law_1966 rfl rfl ?_
  refine JL_iload dL_law_1967 rfl ?_
  refine JL_iconst (v := nI 1) dL_law_1969 (by decide) ?_
  refine JL_iadd dL_law_1970 ?_
  refine JL_scg dL_law_1971 (scIn (by omega) hN) ?_
  refine JL_aload_n dL_law_1972 rfl rfl ?_
  refine JL_help (mi := mL_law) (pc := 1973) dL_law_1973 rfl YL_goal kL_270 hI (fun g0 h1 h2 => c_L_goal hI.1 h1 h2 _) rfl rfl (Nat.le_of_ble_eq_true rfl) (by decide) (fun w1 g hg h0 hI1 => ?_)
  refine JL_istore dL_law_1976 (by decide) rfl ?_
  refine JL_aload_n dL_law_1978 rfl rfl ?_
  refine JL_aload_n dL_law_1979 rfl rfl ?_
  refine JL_iload dL_law_1980 rfl ?_
  refine JL_iconst (v := nI 1) dL_law_1982 (by decide) ?_
  refine JL_iadd dL_law_1983 ?_
  refine JL_scg dL_law_1984 (scIn (by omega) hN) ?_
  refine JL_mod (mi := mL_law) (pc := 1985) dL_law_1985 YX9_goal rfl kL_272 hI1 hg (fun h => c_X9_goal h _) rfl rfl (Nat.le_of_ble_eq_true rfl) (by decide) (fun w2 z hz hI2 hO2 => ?_)
  refine JL_istore dL_law_1988 (by decide) rfl ?_
  refine JL_aload_n dL_law_1990 rfl rfl ?_
  refine JL_thr (mi := mL_law) (pc := 1991) dL_law_1991 YX9_thrown rfl kL_172 hI2 (fun h => c_X9_thrown h) rfl (Nat.le_of_ble_eq_true rfl) (by decide) ?_
  refine JL_iload dL_law_1994 rfl ?_
  refine JL_icmp_eq (tgt := 2001) dL_law_1996 (by decide) (fun _ => ?_) (fun h => absurd rfl h)
  refine JL_iload dL_law_2001 rfl ?_
  refine JL_if_ne (tgt := 2018) dL_law_2003 (by decide) (fun _ => ?_) (fun h => ?_)
  · exact JL_goto (tgt := 2989) dL_law_2018 (by decide) (k _ _ _ _ _ _ hI2)
  · have e0 := cod_0.mp ((nI_eq (b := 0) (cod_lt _ (by decide)) (by decide)).mp h)
    have hz0 := hz e0
    have hg0 := h0 e0
    refine JL_aload_n dL_law_2006 rfl rfl ?_
    refine JL_iconst (v := nI 0) dL_law_2007 (by decide) ?_
    refine KL_lald (v := g 0) dL_law_2008 hO2 (by decide) (by decide) rfl ?_
    refine JL_iload dL_law_2009 rfl ?_
    refine JL_i2l dL_law_2011 rfl ?_
    refine JL_lcmp dL_law_2012 ?_
    exact JL_if_eq (tgt := 2018) dL_law_2013 (by decide) (fun _ => JL_goto (tgt := 2989) dL_law_2018 (by decide) (k _ _ _ _ _ _ hI2)) (fun h => absurd (lgc_eq (by rw [hg0, hz0])) h)
theorem lw_c32 {sN : Nat} {sF : Nat → Int32} {w : Wd} {x m o q th i kb sb : Nat} {G : Gme} {Q : Po} {l6 l7 l8 : Option Value} (hN : sN < 2 ^ 31) (hi : i + 2 < sN) (hI : LI w x m o q G G th) (k : ∀ (w' : Wd) (G' : Gme) (th' : Nat) (l6 l7 l8 : Option Value), LI w' x m o q G' G' th' → JL sN sF 40 mL_law 2989 [some (.ref 3), some (.ref x), some (.ref m), some (.ref o), some (.ref q), some (.int (nI i)), l6, l7, l8] [] w' kb sb Q) : JL sN sF 40 mL_law 2021 [some (.ref 3), some (.ref x), some (.ref m), some (.ref o), some (.ref q), some (.int (nI i)), l6, l7, l8] [] w (kb + 1) (sb + 6) Q := by
  refine JL_aload_n dL_law_2021 rfl rfl ?_
  refine JL_aload_n dL_law_2022 rfl rfl ?_
  refine JL_iload dL_law_2023 rfl ?_
  refine JL_iconst (v := nI 1) dL_law_2025 (by decide) ?_
  refine JL_iadd dL_law_2026 ?_
  refine JL_scg dL_law_2027 (scIn (by omega) hN) ?_
  refine JL_aload_n dL_law_2028 rfl rfl ?_
  refine JL_help (mi := mL_law) (pc := 2029) dL_law_2029 rfl YL_isDerailed kL_273 hI (fun g0 h1 h2 => c_L_isDerailed hI.1 h1 h2 _) rfl rfl (Nat.le_of_ble_eq_true rfl) (by decide) (fun w1 g hg h0 hI1 => ?_)
  refine JL_istore dL_law_2032 (by decide) rfl ?_
  refine JL_aload_n dL_law_2034 rfl rfl ?_
  refine JL_aload_n dL_law_2035 rfl rfl ?_
  refine JL_iload dL_law_2036 rfl ?_
  refine JL_iconst (v := nI 1) dL_law_2038 (by decide) ?_
  refine JL_iadd dL_law_2039 ?_
  refine JL_scg dL_law_2040 (scIn (by omega) hN) ?_
  refine JL_mod (mi := mL_law) (pc := 2041) dL_law_2041 YX9_isDerailed rfl kL_275 hI1 hg (fun h => c_X9_isDerailed h _) rfl rfl (Nat.le_of_ble_eq_true rfl) (by decide) (fun w2 z hz hI2 hO2 => ?_)
  refine JL_istore dL_law_2044 (by decide) rfl ?_
  refine JL_aload_n dL_law_2046 rfl rfl ?_
  refine JL_thr (mi := mL_law) (pc := 2047) dL_law_2047 YX9_thrown rfl kL_172 hI2 (fun h => c_X9_thrown h) rfl (Nat.le_of_ble_eq_true rfl) (by decide) ?_
  refine JL_iload dL_law_2050 rfl ?_
  refine JL_icmp_eq (tgt := 2057) dL_law_2052 (by decide) (fun _ => ?_) (fun h => absurd rfl h)
  refine JL_iload dL_law_2057 rfl ?_
  refine JL_if_ne (tgt := 2081) dL_law_2059 (by decide) (fun _ => ?_) (fun h => ?_)
  · exact JL_goto (tgt := 2989) dL_law_2081 (by decide) (k _ _ _ _ _ _ hI2)
  · have e0 := cod_0.mp ((nI_eq (b := 0) (cod_lt _ (by decide)) (by decide)).mp h)
    have hz0 := hz e0
    have hg0 := h0 e0
    refine JL_aload_n dL_law_2062 rfl rfl ?_
    refine JL_iconst (v := nI 0) dL_law_2063 (by decide) ?_
    refine KL_lald (v := g 0) dL_law_2064 hO2 (by decide) (by decide) rfl ?_
    refine JL_iload dL_law_2065 rfl ?_
    refine JL_if_eq (tgt := 2074) dL_law_2067 (by decide) (fun hz1 => ?_) (fun hz1 => ?_)
    · refine JL_lconst (v := Int64.ofNat 0) dL_law_2074 rfl ?_
      refine JL_lcmp dL_law_2075 ?_
      exact JL_if_eq (tgt := 2081) dL_law_2076 (by decide) (fun _ => JL_goto (tgt := 2989) dL_law_2081 (by decide) (k _ _ _ _ _ _ hI2)) (fun h => absurd (lgc_eq (by rw [hg0, ← hz0, hz1]; decide)) h)
    · refine JL_lconst (v := Int64.ofNat 1) dL_law_2070 rfl ?_
      refine JL_goto (tgt := 2075) dL_law_2071 (by decide) ?_
      refine JL_lcmp dL_law_2075 ?_
      exact JL_if_eq (tgt := 2081) dL_law_2076 (by decide) (fun _ => JL_goto (tgt := 2989) dL_law_2081 (by decide) (k _ _ _ _ _ _ hI2)) (fun h => absurd (lgc_eq (by rw [hg0]; exact (lw_b1 (lb_isDerailed G _) (by rw [← hz0]; exact hz1)).symm)) h)
theorem lw_c33 {sN : Nat} {sF : Nat → Int32} {w : Wd} {x m o q th i kb sb : Nat} {G : Gme} {Q : Po} {l6 l7 l8 : Option Value} (hN : sN < 2 ^ 31) (hi : i + 2 < sN) (hI : LI w x m o q G G th) (k : ∀ (w' : Wd) (G' : Gme) (th' : Nat) (l6 l7 l8 : Option Value), LI w' x m o q G' G' th' → JL sN sF 40 mL_law 2989 [some (.ref 3), some (.ref x), some (.ref m), some (.ref o), some (.ref q), some (.int (nI i)), l6, l7, l8] [] w' kb sb Q) : JL sN sF 40 mL_law 2084 [some (.ref 3), some (.ref x), some (.ref m), some (.ref o), some (.ref q), some (.int (nI i)), l6, l7, l8] [] w (kb + 1) (sb + 6) Q := by
  refine JL_aload_n dL_law_2084 rfl rfl ?_
  refine JL_aload_n dL_law_2085 rfl rfl ?_
  refine JL_iload dL_law_2086 rfl ?_
  refine JL_iconst (v := nI 1) dL_law_2088 (by decide) ?_
  refine JL_iadd dL_law_2089 ?_
  refine JL_scg dL_law_2090 (scIn (by omega) hN) ?_
  refine JL_aload_n dL_law_2091 rfl rfl ?_
  refine JL_help (mi := mL_law) (pc := 2092) dL_law_2092 rfl YL_waits kL_276 hI (fun g0 h1 h2 => c_L_waits hI.1 h1 h2 _) rfl rfl (Nat.le_of_ble_eq_true rfl) (by decide) (fun w1 g hg h0 hI1 => ?_)
  refine JL_istore dL_law_2095 (by decide) rfl ?_
  refine JL_aload_n dL_law_2097 rfl rfl ?_
  refine JL_aload_n dL_law_2098 rfl rfl ?_
  refine JL_iload dL_law_2099 rfl ?_
  refine JL_iconst (v := nI 1) dL_law_2101 (by decide) ?_
  refine JL_iadd dL_law_2102 ?_
  refine JL_scg dL_law_2103 (scIn (by omega) hN) ?_
  refine JL_mod (mi := mL_law) (pc := 2104) dL_law_2104 YX9_waits rfl kL_278 hI1 hg (fun h => c_X9_waits h _) rfl rfl (Nat.le_of_ble_eq_true rfl) (by decide) (fun w2 z hz hI2 hO2 => ?_)
  refine JL_istore dL_law_2107 (by decide) rfl ?_
  refine JL_aload_n dL_law_2109 rfl rfl ?_
  refine JL_thr (mi := mL_law) (pc := 2110) dL_law_2110 YX9_thrown rfl kL_172 hI2 (fun h => c_X9_thrown h) rfl (Nat.le_of_ble_eq_true rfl) (by decide) ?_
  refine JL_iload dL_law_2113 rfl ?_
  refine JL_icmp_eq (tgt := 2120) dL_law_2115 (by decide) (fun _ => ?_) (fun h => absurd rfl h)
  refine JL_iload dL_law_2120 rfl ?_
  refine JL_if_ne (tgt := 2137) dL_law_2122 (by decide) (fun _ => ?_) (fun h => ?_)
  · exact JL_goto (tgt := 2989) dL_law_2137 (by decide) (k _ _ _ _ _ _ hI2)
  · have e0 := cod_0.mp ((nI_eq (b := 0) (cod_lt _ (by decide)) (by decide)).mp h)
    have hz0 := hz e0
    have hg0 := h0 e0
    refine JL_aload_n dL_law_2125 rfl rfl ?_
    refine JL_iconst (v := nI 0) dL_law_2126 (by decide) ?_
    refine KL_lald (v := g 0) dL_law_2127 hO2 (by decide) (by decide) rfl ?_
    refine JL_iload dL_law_2128 rfl ?_
    refine JL_i2l dL_law_2130 rfl ?_
    refine JL_lcmp dL_law_2131 ?_
    exact JL_if_eq (tgt := 2137) dL_law_2132 (by decide) (fun _ => JL_goto (tgt := 2989) dL_law_2137 (by decide) (k _ _ _ _ _ _ hI2)) (fun h => absurd (lgc_eq (by rw [hg0, hz0])) h)
theorem lw_c34 {sN : Nat} {sF : Nat → Int32} {w : Wd} {x m o q th i kb sb : Nat} {G : Gme} {Q : Po} {l6 l7 l8 : Option Value} (hN : sN < 2 ^ 31) (hi : i + 2 < sN) (hI : LI w x m o q G G th) (k : ∀ (w' : Wd) (G' : Gme) (th' : Nat) (l6 l7 l8 : Option Value), LI w' x m o q G' G' th' → JL sN sF 40 mL_law 2989 [some (.ref 3), some (.ref x), some (.ref m), some (.ref o), some (.ref q), some (.int (nI i)), l6, l7, l8] [] w' kb sb Q) : JL sN sF 40 mL_law 2140 [some (.ref 3), some (.ref x), some (.ref m), some (.ref o), some (.ref q), some (.int (nI i)), l6, l7, l8] [] w (kb + 1) (sb + 6) Q := by
  refine JL_aload_n dL_law_2140 rfl rfl ?_
  refine JL_aload_n dL_law_2141 rfl rfl ?_
  refine JL_iload dL_law_2142 rfl ?_
  refine JL_iconst (v := nI 1) dL_law_2144 (by decide) ?_
  refine JL_iadd dL_law_2145 ?_
  refine JL_scg dL_law_2146 (scIn (by omega) hN) ?_
  refine JL_aload_n dL_law_2147 rfl rfl ?_
  refine JL_help (mi := mL_law) (pc := 2148) dL_law_2148 rfl YL_trainByPriority kL_279 hI (fun g0 h1 h2 => c_L_trainByPriority hI.1 h1 h2 _) rfl rfl (Nat.le_of_ble_eq_true rfl) (by decide) (fun w1 g hg h0 hI1 => ?_)
  refine JL_istore dL_law_2151 (by decide) rfl ?_
  refine JL_aload_n dL_law_2153 rfl rfl ?_
  refine JL_aload_n dL_law_2154 rfl rfl ?_
  refine JL_iload dL_law_2155 rfl ?_
  refine JL_iconst (v := nI 1) dL_law_2157 (by decide) ?_
  refine JL_iadd dL_law_2158 ?_
  refine JL_scg dL_law_2159 (scIn (by omega) hN) ?_
  refine JL_mod (mi := mL_law) (pc := 2160) dL_law_2160 YX9_trainByPriority rfl kL_281 hI1 hg (fun h => c_X9_trainByPriority h _) rfl rfl (Nat.le_of_ble_eq_true rfl) (by decide) (fun w2 z hz hI2 hO2 => ?_)
  refine JL_istore dL_law_2163 (by decide) rfl ?_
  refine JL_aload_n dL_law_2165 rfl rfl ?_
  refine JL_thr (mi := mL_law) (pc := 2166) dL_law_2166 YX9_thrown rfl kL_172 hI2 (fun h => c_X9_thrown h) rfl (Nat.le_of_ble_eq_true rfl) (by decide) ?_
  refine JL_iload dL_law_2169 rfl ?_
  refine JL_icmp_eq (tgt := 2176) dL_law_2171 (by decide) (fun _ => ?_) (fun h => absurd rfl h)
  refine JL_iload dL_law_2176 rfl ?_
  refine JL_if_ne (tgt := 2193) dL_law_2178 (by decide) (fun _ => ?_) (fun h => ?_)
  · exact JL_goto (tgt := 2989) dL_law_2193 (by decide) (k _ _ _ _ _ _ hI2)
  · have e0 := cod_0.mp ((nI_eq (b := 0) (cod_lt _ (by decide)) (by decide)).mp h)
    have hz0 := hz e0
    have hg0 := h0 e0
    refine JL_aload_n dL_law_2181 rfl rfl ?_
    refine JL_iconst (v := nI 0) dL_law_2182 (by decide) ?_
    refine KL_lald (v := g 0) dL_law_2183 hO2 (by decide) (by decide) rfl ?_
    refine JL_iload dL_law_2184 rfl ?_
    refine JL_i2l dL_law_2186 rfl ?_
    refine JL_lcmp dL_law_2187 ?_
    exact JL_if_eq (tgt := 2193) dL_law_2188 (by decide) (fun _ => JL_goto (tgt := 2989) dL_law_2193 (by decide) (k _ _ _ _ _ _ hI2)) (fun h => absurd (lgc_eq (by rw [hg0, hz0])) h)
theorem lw_c35 {sN : Nat} {sF : Nat → Int32} {w : Wd} {x m o q th i kb sb : Nat} {G : Gme} {Q : Po} {l6 l7 l8 : Option Value} (hN : sN < 2 ^ 31) (hi : i + 2 < sN) (hI : LI w x m o q G G th) (k : ∀ (w' : Wd) (G' : Gme) (th' : Nat) (l6 l7 l8 : Option Value), LI w' x m o q G' G' th' → JL sN sF 40 mL_law 2989 [some (.ref 3), some (.ref x), some (.ref m), some (.ref o), some (.ref q), some (.int (nI i)), l6, l7, l8] [] w' kb sb Q) : JL sN sF 40 mL_law 2196 [some (.ref 3), some (.ref x), some (.ref m), some (.ref o), some (.ref q), some (.int (nI i)), l6, l7, l8] [] w (kb + 1) (sb + 6) Q := by
  refine JL_aload_n dL_law_2196 rfl rfl ?_
  refine JL_aload_n dL_law_2197 rfl rfl ?_
  refine JL_iload dL_law_2198 rfl ?_
  refine JL_iconst (v := nI 1) dL_law_2200 (by decide) ?_
  refine JL_iadd dL_law_2201 ?_
  refine JL_scg dL_law_2202 (scIn (by omega) hN) ?_
  refine JL_aload_n dL_law_2203 rfl rfl ?_
  refine JL_help (mi := mL_law) (pc := 2204) dL_law_2204 rfl YL_blockedBy kL_282 hI (fun g0 h1 h2 => c_L_blockedBy hI.1 h1 h2 _) rfl rfl (Nat.le_of_ble_eq_true rfl) (by decide) (fun w1 g hg h0 hI1 => ?_)
  refine JL_istore dL_law_2207 (by decide) rfl ?_
  refine JL_aload_n dL_law_2209 rfl rfl ?_
  refine JL_aload_n dL_law_2210 rfl rfl ?_
  refine JL_iload dL_law_2211 rfl ?_
  refine JL_iconst (v := nI 1) dL_law_2213 (by decide) ?_
  refine JL_iadd dL_law_2214 ?_
  refine JL_scg dL_law_2215 (scIn (by omega) hN) ?_
  refine JL_mod (mi := mL_law) (pc := 2216) dL_law_2216 YX9_blockedBy rfl kL_284 hI1 hg (fun h => c_X9_blockedBy h _) rfl rfl (Nat.le_of_ble_eq_true rfl) (by decide) (fun w2 z hz hI2 hO2 => ?_)
  refine JL_istore dL_law_2219 (by decide) rfl ?_
  refine JL_aload_n dL_law_2221 rfl rfl ?_
  refine JL_thr (mi := mL_law) (pc := 2222) dL_law_2222 YX9_thrown rfl kL_172 hI2 (fun h => c_X9_thrown h) rfl (Nat.le_of_ble_eq_true rfl) (by decide) ?_
  refine JL_iload dL_law_2225 rfl ?_
  refine JL_icmp_eq (tgt := 2232) dL_law_2227 (by decide) (fun _ => ?_) (fun h => absurd rfl h)
  refine JL_iload dL_law_2232 rfl ?_
  refine JL_if_ne (tgt := 2249) dL_law_2234 (by decide) (fun _ => ?_) (fun h => ?_)
  · exact JL_goto (tgt := 2989) dL_law_2249 (by decide) (k _ _ _ _ _ _ hI2)
  · have e0 := cod_0.mp ((nI_eq (b := 0) (cod_lt _ (by decide)) (by decide)).mp h)
    have hz0 := hz e0
    have hg0 := h0 e0
    refine JL_aload_n dL_law_2237 rfl rfl ?_
    refine JL_iconst (v := nI 0) dL_law_2238 (by decide) ?_
    refine KL_lald (v := g 0) dL_law_2239 hO2 (by decide) (by decide) rfl ?_
    refine JL_iload dL_law_2240 rfl ?_
    refine JL_i2l dL_law_2242 rfl ?_
    refine JL_lcmp dL_law_2243 ?_
    exact JL_if_eq (tgt := 2249) dL_law_2244 (by decide) (fun _ => JL_goto (tgt := 2989) dL_law_2249 (by decide) (k _ _ _ _ _ _ hI2)) (fun h => absurd (lgc_eq (by rw [hg0, hz0])) h)
theorem lw_c36 {sN : Nat} {sF : Nat → Int32} {w : Wd} {x m o q th i kb sb : Nat} {G : Gme} {Q : Po} {l6 l7 l8 : Option Value} (hN : sN < 2 ^ 31) (hi : i + 2 < sN) (hI : LI w x m o q G G th) (k : ∀ (w' : Wd) (G' : Gme) (th' : Nat) (l6 l7 l8 : Option Value), LI w' x m o q G' G' th' → JL sN sF 40 mL_law 2989 [some (.ref 3), some (.ref x), some (.ref m), some (.ref o), some (.ref q), some (.int (nI i)), l6, l7, l8] [] w' kb sb Q) : JL sN sF 40 mL_law 2252 [some (.ref 3), some (.ref x), some (.ref m), some (.ref o), some (.ref q), some (.int (nI i)), l6, l7, l8] [] w (kb + 1) (sb + 6) Q := by
  refine JL_aload_n dL_law_2252 rfl rfl ?_
  refine JL_cls (mi := mL_law) (pc := 2253) dL_law_2253 YX8_deadlocked rfl kL_285 hI (fun h => c_X8_deadlocked h) rfl rfl rfl (Nat.le_of_ble_eq_true rfl) (by decide) (fun w1 hI1 => ?_)
  obtain ⟨g, hO⟩ := hI1.2.2.1
  refine JL_aload_n dL_law_2256 rfl rfl ?_
  refine JL_mod (mi := mL_law) (pc := 2257) dL_law_2257 YX9_deadlocked rfl kL_288 hI1 hO (fun h => c_X9_deadlocked h) rfl rfl (Nat.le_of_ble_eq_true rfl) (by decide) (fun w2 z hz hI2 hO2 => ?_)
  have hz0 := hz rfl
  exact JL_icmp_eq (tgt := 2989) dL_law_2260 (by decide) (fun _ => k _ _ _ _ _ _ hI2) (fun h => absurd hz0.symm h)
theorem lw_c37 {sN : Nat} {sF : Nat → Int32} {w : Wd} {x m o q th i kb sb : Nat} {G : Gme} {Q : Po} {l6 l7 l8 : Option Value} (hN : sN < 2 ^ 31) (hi : i + 2 < sN) (hI : LI w x m o q G G th) (k : ∀ (w' : Wd) (G' : Gme) (th' : Nat) (l6 l7 l8 : Option Value), LI w' x m o q G' G' th' → JL sN sF 40 mL_law 2989 [some (.ref 3), some (.ref x), some (.ref m), some (.ref o), some (.ref q), some (.int (nI i)), l6, l7, l8] [] w' kb sb Q) : JL sN sF 40 mL_law 2265 [some (.ref 3), some (.ref x), some (.ref m), some (.ref o), some (.ref q), some (.int (nI i)), l6, l7, l8] [] w (kb + 1) (sb + 6) Q := by
  refine JL_aload_n dL_law_2265 rfl rfl ?_
  refine JL_cls (mi := mL_law) (pc := 2266) dL_law_2266 YX8_deadlockedByTable rfl kL_289 hI (fun h => c_X8_deadlockedByTable h) rfl rfl rfl (Nat.le_of_ble_eq_true rfl) (by decide) (fun w1 hI1 => ?_)
  obtain ⟨g, hO⟩ := hI1.2.2.1
  refine JL_aload_n dL_law_2269 rfl rfl ?_
  refine JL_mod (mi := mL_law) (pc := 2270) dL_law_2270 YX9_deadlockedByTable rfl kL_292 hI1 hO (fun h => c_X9_deadlockedByTable h) rfl rfl (Nat.le_of_ble_eq_true rfl) (by decide) (fun w2 z hz hI2 hO2 => ?_)
  have hz0 := hz rfl
  exact JL_icmp_eq (tgt := 2989) dL_law_2273 (by decide) (fun _ => k _ _ _ _ _ _ hI2) (fun h => absurd hz0.symm h)
theorem lw_c38 {sN : Nat} {sF : Nat → Int32} {w : Wd} {x m o q th i kb sb : Nat} {G : Gme} {Q : Po} {l6 l7 l8 : Option Value} (hN : sN < 2 ^ 31) (hi : i + 2 < sN) (hI : LI w x m o q G G th) (k : ∀ (w' : Wd) (G' : Gme) (th' : Nat) (l6 l7 l8 : Option Value), LI w' x m o q G' G' th' → JL sN sF 40 mL_law 2989 [some (.ref 3), some (.ref x), some (.ref m), some (.ref o), some (.ref q), some (.int (nI i)), l6, l7, l8] [] w' kb sb Q) : JL sN sF 40 mL_law 2278 [some (.ref 3), some (.ref x), some (.ref m), some (.ref o), some (.ref q), some (.int (nI i)), l6, l7, l8] [] w (kb + 1) (sb + 6) Q := by
  refine JL_aload_n dL_law_2278 rfl rfl ?_
  refine JL_aload_n dL_law_2279 rfl rfl ?_
  refine JL_iload dL_law_2280 rfl ?_
  refine JL_iconst (v := nI 1) dL_law_2282 (by decide) ?_
  refine JL_iadd dL_law_2283 ?_
  refine JL_scg dL_law_2284 (scIn (by omega) hN) ?_
  refine JL_aload_n dL_law_2285 rfl rfl ?_
  refine JL_help (mi := mL_law) (pc := 2286) dL_law_2286 rfl YL_passTicks kL_293 hI (fun g0 h1 h2 => c_L_passTicks hI.1 h1 h2 _) rfl rfl (Nat.le_of_ble_eq_true rfl) (by decide) (fun w1 g hg h0 hI1 => ?_)
  refine JL_istore dL_law_2289 (by decide) rfl ?_
  refine JL_aload_n dL_law_2291 rfl rfl ?_
  refine JL_aload_n dL_law_2292 rfl rfl ?_
  refine JL_iload dL_law_2293 rfl ?_
  refine JL_iconst (v := nI 1) dL_law_2295 (by decide) ?_
  refine JL_iadd dL_law_2296 ?_
  refine JL_scg dL_law_2297 (scIn (by omega) hN) ?_
  refine JL_mod (mi := mL_law) (pc := 2298) dL_law_2298 YX9_passTicks rfl kL_295 hI1 hg (fun h => c_X9_passTicks h _) rfl rfl (Nat.le_of_ble_eq_true rfl) (by decide) (fun w2 z hz hI2 hO2 => ?_)
  refine JL_istore dL_law_2301 (by decide) rfl ?_
  refine JL_aload_n dL_law_2303 rfl rfl ?_
  refine JL_thr (mi := mL_law) (pc := 2304) dL_law_2304 YX9_thrown rfl kL_172 hI2 (fun h => c_X9_thrown h) rfl (Nat.le_of_ble_eq_true rfl) (by decide) ?_
  refine JL_iload dL_law_2307 rfl ?_
  refine JL_icmp_eq (tgt := 2314) dL_law_2309 (by decide) (fun _ => ?_) (fun h => absurd rfl h)
  refine JL_iload dL_law_2314 rfl ?_
  refine JL_if_ne (tgt := 2331) dL_law_2316 (by decide) (fun _ => ?_) (fun h => ?_)
  · exact JL_goto (tgt := 2989) dL_law_2331 (by decide) (k _ _ _ _ _ _ hI2)
  · have e0 := cod_0.mp ((nI_eq (b := 0) (cod_lt _ (by decide)) (by decide)).mp h)
    have hz0 := hz e0
    have hg0 := h0 e0
    refine JL_aload_n dL_law_2319 rfl rfl ?_
    refine JL_iconst (v := nI 0) dL_law_2320 (by decide) ?_
    refine KL_lald (v := g 0) dL_law_2321 hO2 (by decide) (by decide) rfl ?_
    refine JL_iload dL_law_2322 rfl ?_
    refine JL_i2l dL_law_2324 rfl ?_
    refine JL_lcmp dL_law_2325 ?_
    exact JL_if_eq (tgt := 2331) dL_law_2326 (by decide) (fun _ => JL_goto (tgt := 2989) dL_law_2331 (by decide) (k _ _ _ _ _ _ hI2)) (fun h => absurd (lgc_eq (by rw [hg0, hz0])) h)
theorem lw_c39 {sN : Nat} {sF : Nat → Int32} {w : Wd} {x m o q th i kb sb : Nat} {G : Gme} {Q : Po} {l6 l7 l8 : Option Value} (hN : sN < 2 ^ 31) (hi : i + 2 < sN) (hI : LI w x m o q G G th) (k : ∀ (w' : Wd) (G' : Gme) (th' : Nat) (l6 l7 l8 : Option Value), LI w' x m o q G' G' th' → JL sN sF 40 mL_law 2989 [some (.ref 3), some (.ref x), some (.ref m), some (.ref o), some (.ref q), some (.int (nI i)), l6, l7, l8] [] w' kb sb Q) : JL sN sF 40 mL_law 2334 [some (.ref 3), some (.ref x), some (.ref m), some (.ref o), some (.ref q), some (.int (nI i)), l6, l7, l8] [] w (kb + 1) (sb + 6) Q := by
  refine JL_aload_n dL_law_2334 rfl rfl ?_
  refine JL_cls (mi := mL_law) (pc := 2335) dL_law_2335 YX8_ticks rfl kL_296 hI (fun h => c_X8_ticks h) rfl rfl rfl (Nat.le_of_ble_eq_true rfl) (by decide) (fun w1 hI1 => ?_)
  obtain ⟨g, hO⟩ := hI1.2.2.1
  refine JL_aload_n dL_law_2338 rfl rfl ?_
  refine JL_mod (mi := mL_law) (pc := 2339) dL_law_2339 YX9_ticks rfl kL_299 hI1 hO (fun h => c_X9_ticks h) rfl rfl (Nat.le_of_ble_eq_true rfl) (by decide) (fun w2 z hz hI2 hO2 => ?_)
  have hz0 := hz rfl
  exact JL_icmp_eq (tgt := 2989) dL_law_2342 (by decide) (fun _ => k _ _ _ _ _ _ hI2) (fun h => absurd hz0.symm h)
end JCASES

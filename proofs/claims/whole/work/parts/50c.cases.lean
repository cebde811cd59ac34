/-! THE LAW: its cases -/
section JCASES
theorem lw_c10 {sN : Nat} {sF : Nat → Int32} {w : Wd} {x m o q th i kb sb : Nat} {G : Gme} {Q : Po} {l6 l7 l8 : Option Value} (hN : sN < 2 ^ 31) (hi : i + 2 < sN) (hI : LI w x m o q G G th) (k : ∀ (w' : Wd) (G' : Gme) (th' : Nat) (l6 l7 l8 : Option Value), LI w' x m o q G' G' th' → JL sN sF 40 mL_law 2989 [some (.ref 3), some (.ref x), some (.ref m), some (.ref o), some (.ref q), some (.int (nI i)), l6, l7, l8] [] w' kb sb Q) : JL sN sF 40 mL_law 839 [some (.ref 3), some (.ref x), some (.ref m), some (.ref o), some (.ref q), some (.int (nI i)), l6, l7, l8] [] w (kb + 1) (sb + 6) Q := by
  refine JL_aload_n dL_law_839 rfl rfl ?_
  refine JL_aload_n dL_law_840 rfl rfl ?_
  refine JL_iload dL_law_841 rfl ?_
  refine JL_iconst (v := nI 1) dL_law_843 (by decide) ?_
  refine JL_iadd dL_law_844 ?_
  refine JL_scg dL_law_845 (scIn (by omega) hN) ?_
  refine JL_aload_n dL_law_846 rfl rfl ?_
  refine JL_iload dL_law_847 rfl ?_
  refine JL_iconst (v := nI 2) dL_law_849 (by decide) ?_
  refine JL_iadd dL_law_850 ?_
  refine JL_scg dL_law_851 (scIn (by omega) hN) ?_
  refine JL_aload_n dL_law_852 rfl rfl ?_
  refine JL_help (mi := mL_law) (pc := 853) dL_law_853 rfl YL_areLinked kL_204 hI (fun g0 h1 h2 => c_L_areLinked hI.1 h1 h2 _ _) rfl rfl (Nat.le_of_ble_eq_true rfl) (by decide) (fun w1 g hg h0 hI1 => ?_)
  refine JL_istore dL_law_856 (by decide) rfl ?_
  refine JL_aload_n dL_law_858 rfl rfl ?_
  refine JL_aload_n dL_law_859 rfl rfl ?_
  refine JL_iload dL_law_860 rfl ?_
  refine JL_iconst (v := nI 1) dL_law_862 (by decide) ?_
  refine JL_iadd dL_law_863 ?_
  refine JL_scg dL_law_864 (scIn (by omega) hN) ?_
  refine JL_aload_n dL_law_865 rfl rfl ?_
  refine JL_iload dL_law_866 rfl ?_
  refine JL_iconst (v := nI 2) dL_law_868 (by decide) ?_
  refine JL_iadd dL_law_869 ?_
  refine JL_scg dL_law_870 (scIn (by omega) hN) ?_
  refine JL_mod (mi := mL_law) (pc := 871) dL_law_871 YX9_areLinked rfl kL_206 hI1 hg (fun h => c_X9_areLinked h _ _) rfl rfl (Nat.le_of_ble_eq_true rfl) (by decide) (fun w2 z hz hI2 hO2 => ?_)
  refine JL_istore dL_law_874 (by decide) rfl ?_
  refine JL_aload_n dL_law_876 rfl rfl ?_
  refine JL_thr (mi := mL_law) (pc := 877) dL_law_877 YX9_thrown rfl kL_172 hI2 (fun h => c_X9_thrown h) rfl (Nat.le_of_ble_eq_true rfl) (by decide) ?_
  refine JL_iload dL_law_880 rfl ?_
  refine JL_icmp_eq (tgt := 887) dL_law_882 (by decide) (fun _ => ?_) (fun h => absurd rfl h)
  refine JL_iload dL_law_887 rfl ?_
  refine JL_if_ne (tgt := 911) dL_law_889 (by decide) (fun _ => ?_) (fun h => ?_)
  · exact JL_goto (tgt := 2989) dL_law_911 (by decide) (k _ _ _ _ _ _ hI2)
  · have e0 := cod_0.mp ((nI_eq (b := 0) (cod_lt _ (by decide)) (by decide)).mp h)
    have hz0 := hz e0
    have hg0 := h0 e0
    refine JL_aload_n dL_law_892 rfl rfl ?_
    refine JL_iconst (v := nI 0) dL_law_893 (by decide) ?_
    refine KL_lald (v := g 0) dL_law_894 hO2 (by decide) (by decide) rfl ?_
    refine JL_iload dL_law_895 rfl ?_
    refine JL_if_eq (tgt := 904) dL_law_897 (by decide) (fun hz1 => ?_) (fun hz1 => ?_)
    · refine JL_lconst (v := Int64.ofNat 0) dL_law_904 rfl ?_
      refine JL_lcmp dL_law_905 ?_
      exact JL_if_eq (tgt := 911) dL_law_906 (by decide) (fun _ => JL_goto (tgt := 2989) dL_law_911 (by decide) (k _ _ _ _ _ _ hI2)) (fun h => absurd (lgc_eq (by rw [hg0, ← hz0, hz1]; decide)) h)
    · refine JL_lconst (v := Int64.ofNat 1) dL_law_900 rfl ?_
      refine JL_goto (tgt := 905) dL_law_901 (by decide) ?_
      refine JL_lcmp dL_law_905 ?_
      exact JL_if_eq (tgt := 911) dL_law_906 (by decide) (fun _ => JL_goto (tgt := 2989) dL_law_911 (by decide) (k _ _ _ _ _ _ hI2)) (fun h => absurd (lgc_eq (by rw [hg0]; exact (lw_b1 (lb_areLinked G _ _) (by rw [← hz0]; exact hz1)).symm)) h)
theorem lw_c11 {sN : Nat} {sF : Nat → Int32} {w : Wd} {x m o q th i kb sb : Nat} {G : Gme} {Q : Po} {l6 l7 l8 : Option Value} (hN : sN < 2 ^ 31) (hi : i + 2 < sN) (hI : LI w x m o q G G th) (k : ∀ (w' : Wd) (G' : Gme) (th' : Nat) (l6 l7 l8 : Option Value), LI w' x m o q G' G' th' → JL sN sF 40 mL_law 2989 [some (.ref 3), some (.ref x), some (.ref m), some (.ref o), some (.ref q), some (.int (nI i)), l6, l7, l8] [] w' kb sb Q) : JL sN sF 40 mL_law 914 [some (.ref 3), some (.ref x), some (.ref m), some (.ref o), some (.ref q), some (.int (nI i)), l6, l7, l8] [] w (kb + 1) (sb + 6) Q := by
  refine JL_aload_n dL_law_914 rfl rfl ?_
  refine JL_aload_n dL_law_915 rfl rfl ?_
  refine JL_iload dL_law_916 rfl ?_
  refine JL_iconst (v := nI 1) dL_law_918 (by decide) ?_
  refine JL_iadd dL_law_919 ?_
  refine JL_scg dL_law_920 (scIn (by omega) hN) ?_
  refine JL_aload_n dL_law_921 rfl rfl ?_
  refine JL_help (mi := mL_law) (pc := 922) dL_law_922 rfl YL_degree kL_207 hI (fun g0 h1 h2 => c_L_degree hI.1 h1 h2 _) rfl rfl (Nat.le_of_ble_eq_true rfl) (by decide) (fun w1 g hg h0 hI1 => ?_)
  refine JL_istore dL_law_925 (by decide) rfl ?_
  refine JL_aload_n dL_law_927 rfl rfl ?_
  refine JL_aload_n dL_law_928 rfl rfl ?_
  refine JL_iload dL_law_929 rfl ?_
  refine JL_iconst (v := nI 1) dL_law_931 (by decide) ?_
  refine JL_iadd dL_law_932 ?_
  refine JL_scg dL_law_933 (scIn (by omega) hN) ?_
  refine JL_mod (mi := mL_law) (pc := 934) dL_law_934 YX9_degree rfl kL_209 hI1 hg (fun h => c_X9_degree h _) rfl rfl (Nat.le_of_ble_eq_true rfl) (by decide) (fun w2 z hz hI2 hO2 => ?_)
  refine JL_istore dL_law_937 (by decide) rfl ?_
  refine JL_aload_n dL_law_939 rfl rfl ?_
  refine JL_thr (mi := mL_law) (pc := 940) dL_law_940 YX9_thrown rfl kL_172 hI2 (fun h => c_X9_thrown h) rfl (Nat.le_of_ble_eq_true rfl) (by decide) ?_
  refine JL_iload dL_law_943 rfl ?_
  refine JL_icmp_eq (tgt := 950) dL_law_945 (by decide) (fun _ => ?_) (fun h => absurd rfl h)
  refine JL_iload dL_law_950 rfl ?_
  refine JL_if_ne (tgt := 967) dL_law_952 (by decide) (fun _ => ?_) (fun h => ?_)
  · exact JL_goto (tgt := 2989) dL_law_967 (by decide) (k _ _ _ _ _ _ hI2)
  · have e0 := cod_0.mp ((nI_eq (b := 0) (cod_lt _ (by decide)) (by decide)).mp h)
    have hz0 := hz e0
    have hg0 := h0 e0
    refine JL_aload_n dL_law_955 rfl rfl ?_
    refine JL_iconst (v := nI 0) dL_law_956 (by decide) ?_
    refine KL_lald (v := g 0) dL_law_957 hO2 (by decide) (by decide) rfl ?_
    refine JL_iload dL_law_958 rfl ?_
    refine JL_i2l dL_law_960 rfl ?_
    refine JL_lcmp dL_law_961 ?_
    exact JL_if_eq (tgt := 967) dL_law_962 (by decide) (fun _ => JL_goto (tgt := 2989) dL_law_967 (by decide) (k _ _ _ _ _ _ hI2)) (fun h => absurd (lgc_eq (by rw [hg0, hz0])) h)
theorem lw_c12 {sN : Nat} {sF : Nat → Int32} {w : Wd} {x m o q th i kb sb : Nat} {G : Gme} {Q : Po} {l6 l7 l8 : Option Value} (hN : sN < 2 ^ 31) (hi : i + 2 < sN) (hI : LI w x m o q G G th) (k : ∀ (w' : Wd) (G' : Gme) (th' : Nat) (l6 l7 l8 : Option Value), LI w' x m o q G' G' th' → JL sN sF 40 mL_law 2989 [some (.ref 3), some (.ref x), some (.ref m), some (.ref o), some (.ref q), some (.int (nI i)), l6, l7, l8] [] w' kb sb Q) : JL sN sF 40 mL_law 970 [some (.ref 3), some (.ref x), some (.ref m), some (.ref o), some (.ref q), some (.int (nI i)), l6, l7, l8] [] w (kb + 1) (sb + 6) Q := by
  refine JL_aload_n dL_law_970 rfl rfl ?_
  refine JL_aload_n dL_law_971 rfl rfl ?_
  refine JL_iload dL_law_972 rfl ?_
  refine JL_iconst (v := nI 1) dL_law_974 (by decide) ?_
  refine JL_iadd dL_law_975 ?_
  refine JL_scg dL_law_976 (scIn (by omega) hN) ?_
  refine JL_aload_n dL_law_977 rfl rfl ?_
  refine JL_help (mi := mL_law) (pc := 978) dL_law_978 rfl YL_trainIn kL_210 hI (fun g0 h1 h2 => c_L_trainIn hI.1 h1 h2 _) rfl rfl (Nat.le_of_ble_eq_true rfl) (by decide) (fun w1 g hg h0 hI1 => ?_)
  refine JL_istore dL_law_981 (by decide) rfl ?_
  refine JL_aload_n dL_law_983 rfl rfl ?_
  refine JL_aload_n dL_law_984 rfl rfl ?_
  refine JL_iload dL_law_985 rfl ?_
  refine JL_iconst (v := nI 1) dL_law_987 (by decide) ?_
  refine JL_iadd dL_law_988 ?_
  refine JL_scg dL_law_989 (scIn (by omega) hN) ?_
  refine JL_mod (mi := mL_law) (pc := 990) dL_law_990 YX9_trainIn rfl kL_212 hI1 hg (fun h => c_X9_trainIn h _) rfl rfl (Nat.le_of_ble_eq_true rfl) (by decide) (fun w2 z hz hI2 hO2 => ?_)
  refine JL_istore dL_law_993 (by decide) rfl ?_
  refine JL_aload_n dL_law_995 rfl rfl ?_
  refine JL_thr (mi := mL_law) (pc := 996) dL_law_996 YX9_thrown rfl kL_172 hI2 (fun h => c_X9_thrown h) rfl (Nat.le_of_ble_eq_true rfl) (by decide) ?_
  refine JL_iload dL_law_999 rfl ?_
  refine JL_icmp_eq (tgt := 1006) dL_law_1001 (by decide) (fun _ => ?_) (fun h => absurd rfl h)
  refine JL_iload dL_law_1006 rfl ?_
  refine JL_if_ne (tgt := 1023) dL_law_1008 (by decide) (fun _ => ?_) (fun h => ?_)
  · exact JL_goto (tgt := 2989) dL_law_1023 (by decide) (k _ _ _ _ _ _ hI2)
  · have e0 := cod_0.mp ((nI_eq (b := 0) (cod_lt _ (by decide)) (by decide)).mp h)
    have hz0 := hz e0
    have hg0 := h0 e0
    refine JL_aload_n dL_law_1011 rfl rfl ?_
    refine JL_iconst (v := nI 0) dL_law_1012 (by decide) ?_
    refine KL_lald (v := g 0) dL_law_1013 hO2 (by decide) (by decide) rfl ?_
    refine JL_iload dL_law_1014 rfl ?_
    refine JL_i2l dL_law_1016 rfl ?_
    refine JL_lcmp dL_law_1017 ?_
    exact JL_if_eq (tgt := 1023) dL_law_1018 (by decide) (fun _ => JL_goto (tgt := 2989) dL_law_1023 (by decide) (k _ _ _ _ _ _ hI2)) (fun h => absurd (lgc_eq (by rw [hg0, hz0])) h)
theorem lw_c13 {sN : Nat} {sF : Nat → Int32} {w : Wd} {x m o q th i kb sb : Nat} {G : Gme} {Q : Po} {l6 l7 l8 : Option Value} (hN : sN < 2 ^ 31) (hi : i + 2 < sN) (hI : LI w x m o q G G th) (k : ∀ (w' : Wd) (G' : Gme) (th' : Nat) (l6 l7 l8 : Option Value), LI w' x m o q G' G' th' → JL sN sF 40 mL_law 2989 [some (.ref 3), some (.ref x), some (.ref m), some (.ref o), some (.ref q), some (.int (nI i)), l6, l7, l8] [] w' kb sb Q) : JL sN sF 40 mL_law 1026 [some (.ref 3), some (.ref x), some (.ref m), some (.ref o), some (.ref q), some (.int (nI i)), l6, l7, l8] [] w (kb + 1) (sb + 6) Q := by
  refine JL_aload_n dL_law_1026 rfl rfl ?_
  refine JL_aload_n dL_law_1027 rfl rfl ?_
  refine JL_iload dL_law_1028 rfl ?_
  refine JL_iconst (v := nI 1) dL_law_1030 (by decide) ?_
  refine JL_iadd dL_law_1031 ?_
  refine JL_scg dL_law_1032 (scIn (by omega) hN) ?_
  refine JL_aload_n dL_law_1033 rfl rfl ?_
  refine JL_help (mi := mL_law) (pc := 1034) dL_law_1034 rfl YL_reservedBy kL_213 hI (fun g0 h1 h2 => c_L_reservedBy hI.1 h1 h2 _) rfl rfl (Nat.le_of_ble_eq_true rfl) (by decide) (fun w1 g hg h0 hI1 => ?_)
  refine JL_istore dL_law_1037 (by decide) rfl ?_
  refine JL_aload_n dL_law_1039 rfl rfl ?_
  refine JL_aload_n dL_law_1040 rfl rfl ?_
  refine JL_iload dL_law_1041 rfl ?_
  refine JL_iconst (v := nI 1) dL_law_1043 (by decide) ?_
  refine JL_iadd dL_law_1044 ?_
  refine JL_scg dL_law_1045 (scIn (by omega) hN) ?_
  refine JL_mod (mi := mL_law) (pc := 1046) dL_law_1046 YX9_reservedBy rfl kL_215 hI1 hg (fun h => c_X9_reservedBy h _) rfl rfl (Nat.le_of_ble_eq_true rfl) (by decide) (fun w2 z hz hI2 hO2 => ?_)
  refine JL_istore dL_law_1049 (by decide) rfl ?_
  refine JL_aload_n dL_law_1051 rfl rfl ?_
  refine JL_thr (mi := mL_law) (pc := 1052) dL_law_1052 YX9_thrown rfl kL_172 hI2 (fun h => c_X9_thrown h) rfl (Nat.le_of_ble_eq_true rfl) (by decide) ?_
  refine JL_iload dL_law_1055 rfl ?_
  refine JL_icmp_eq (tgt := 1062) dL_law_1057 (by decide) (fun _ => ?_) (fun h => absurd rfl h)
  refine JL_iload dL_law_1062 rfl ?_
  refine JL_if_ne (tgt := 1079) dL_law_1064 (by decide) (fun _ => ?_) (fun h => ?_)
  · exact JL_goto (tgt := 2989) dL_law_1079 (by decide) (k _ _ _ _ _ _ hI2)
  · have e0 := cod_0.mp ((nI_eq (b := 0) (cod_lt _ (by decide)) (by decide)).mp h)
    have hz0 := hz e0
    have hg0 := h0 e0
    refine JL_aload_n dL_law_1067 rfl rfl ?_
    refine JL_iconst (v := nI 0) dL_law_1068 (by decide) ?_
    refine KL_lald (v := g 0) dL_law_1069 hO2 (by decide) (by decide) rfl ?_
    refine JL_iload dL_law_1070 rfl ?_
    refine JL_i2l dL_law_1072 rfl ?_
    refine JL_lcmp dL_law_1073 ?_
    exact JL_if_eq (tgt := 1079) dL_law_1074 (by decide) (fun _ => JL_goto (tgt := 2989) dL_law_1079 (by decide) (k _ _ _ _ _ _ hI2)) (fun h => absurd (lgc_eq (by rw [hg0, hz0])) h)
theorem lw_c14 {sN : Nat} {sF : Nat → Int32} {w : Wd} {x m o q th i kb sb : Nat} {G : Gme} {Q : Po} {l6 l7 l8 : Option Value} (hN : sN < 2 ^ 31) (hi : i + 2 < sN) (hI : LI w x m o q G G th) (k : ∀ (w' : Wd) (G' : Gme) (th' : Nat) (l6 l7 l8 : Option Value), LI w' x m o q G' G' th' → JL sN sF 40 mL_law 2989 [some (.ref 3), some (.ref x), some (.ref m), some (.ref o), some (.ref q), some (.int (nI i)), l6, l7, l8] [] w' kb sb Q) : JL sN sF 40 mL_law 1082 [some (.ref 3), some (.ref x), some (.ref m), some (.ref o), some (.ref q), some (.int (nI i)), l6, l7, l8] [] w (kb + 1) (sb + 6) Q := by
  refine JL_aload_n dL_law_1082 rfl rfl ?_
  refine JL_aload_n dL_law_1083 rfl rfl ?_
  refine JL_iload dL_law_1084 rfl ?_
  refine JL_iconst (v := nI 1) dL_law_1086 (by decide) ?_
  refine JL_iadd dL_law_1087 ?_
  refine JL_scg dL_law_1088 (scIn (by omega) hN) ?_
  refine JL_aload_n dL_law_1089 rfl rfl ?_
  refine JL_help (mi := mL_law) (pc := 1090) dL_law_1090 rfl YL_signal kL_216 hI (fun g0 h1 h2 => c_L_signal hI.1 h1 h2 _) rfl rfl (Nat.le_of_ble_eq_true rfl) (by decide) (fun w1 g hg h0 hI1 => ?_)
  refine JL_istore dL_law_1093 (by decide) rfl ?_
  refine JL_aload_n dL_law_1095 rfl rfl ?_
  refine JL_aload_n dL_law_1096 rfl rfl ?_
  refine JL_iload dL_law_1097 rfl ?_
  refine JL_iconst (v := nI 1) dL_law_1099 (by decide) ?_
  refine JL_iadd dL_law_1100 ?_
  refine JL_scg dL_law_1101 (scIn (by omega) hN) ?_
  refine JL_mod (mi := mL_law) (pc := 1102) dL_law_1102 YX9_signal rfl kL_218 hI1 hg (fun h => c_X9_signal h _) rfl rfl (Nat.le_of_ble_eq_true rfl) (by decide) (fun w2 z hz hI2 hO2 => ?_)
  refine JL_istore dL_law_1105 (by decide) rfl ?_
  refine JL_aload_n dL_law_1107 rfl rfl ?_
  refine JL_thr (mi := mL_law) (pc := 1108) dL_law_1108 YX9_thrown rfl kL_172 hI2 (fun h => c_X9_thrown h) rfl (Nat.le_of_ble_eq_true rfl) (by decide) ?_
  refine JL_iload dL_law_1111 rfl ?_
  refine JL_icmp_eq (tgt := 1118) dL_law_1113 (by decide) (fun _ => ?_) (fun h => absurd rfl h)
  refine JL_iload dL_law_1118 rfl ?_
  refine JL_if_ne (tgt := 1135) dL_law_1120 (by decide) (fun _ => ?_) (fun h => ?_)
  · exact JL_goto (tgt := 2989) dL_law_1135 (by decide) (k _ _ _ _ _ _ hI2)
  · have e0 := cod_0.mp ((nI_eq (b := 0) (cod_lt _ (by decide)) (by decide)).mp h)
    have hz0 := hz e0
    have hg0 := h0 e0
    refine JL_aload_n dL_law_1123 rfl rfl ?_
    refine JL_iconst (v := nI 0) dL_law_1124 (by decide) ?_
    refine KL_lald (v := g 0) dL_law_1125 hO2 (by decide) (by decide) rfl ?_
    refine JL_iload dL_law_1126 rfl ?_
    refine JL_i2l dL_law_1128 rfl ?_
    refine JL_lcmp dL_law_1129 ?_
    exact JL_if_eq (tgt := 1135) dL_law_1130 (by decide) (fun _ => JL_goto (tgt := 2989) dL_law_1135 (by decide) (k _ _ _ _ _ _ hI2)) (fun h => absurd (lgc_eq (by rw [hg0, hz0])) h)
theorem lw_c15 {sN : Nat} {sF : Nat → Int32} {w : Wd} {x m o q th i kb sb : Nat} {G : Gme} {Q : Po} {l6 l7 l8 : Option Value} (hN : sN < 2 ^ 31) (hi : i + 2 < sN) (hI : LI w x m o q G G th) (k : ∀ (w' : Wd) (G' : Gme) (th' : Nat) (l6 l7 l8 : Option Value), LI w' x m o q G' G' th' → JL sN sF 40 mL_law 2989 [some (.ref 3), some (.ref x), some (.ref m), some (.ref o), some (.ref q), some (.int (nI i)), l6, l7, l8] [] w' kb sb Q) : JL sN sF 40 mL_law 1138 [some (.ref 3), some (.ref x), some (.ref m), some (.ref o), some (.ref q), some (.int (nI i)), l6, l7, l8] [] w (kb + 1) (sb + 6) Q := by
  refine JL_aload_n dL_law_1138 rfl rfl ?_
  refine JL_aload_n dL_law_1139 rfl rfl ?_
  refine JL_iload dL_law_1140 rfl ?_
  refine JL_iconst (v := nI 1) dL_law_1142 (by decide) ?_
  refine JL_iadd dL_law_1143 ?_
  refine JL_scg dL_law_1144 (scIn (by omega) hN) ?_
  refine JL_aload_n dL_law_1145 rfl rfl ?_
  refine JL_iload dL_law_1146 rfl ?_
  refine JL_iconst (v := nI 2) dL_law_1148 (by decide) ?_
  refine JL_iadd dL_law_1149 ?_
  refine JL_scg dL_law_1150 (scIn (by omega) hN) ?_
  refine JL_aload_n dL_law_1151 rfl rfl ?_
  refine JL_help (mi := mL_law) (pc := 1152) dL_law_1152 rfl YL_distance kL_219 hI (fun g0 h1 h2 => c_L_distance hI.1 h1 h2 _ _) rfl rfl (Nat.le_of_ble_eq_true rfl) (by decide) (fun w1 g hg h0 hI1 => ?_)
  refine JL_istore dL_law_1155 (by decide) rfl ?_
  refine JL_aload_n dL_law_1157 rfl rfl ?_
  refine JL_aload_n dL_law_1158 rfl rfl ?_
  refine JL_iload dL_law_1159 rfl ?_
  refine JL_iconst (v := nI 1) dL_law_1161 (by decide) ?_
  refine JL_iadd dL_law_1162 ?_
  refine JL_scg dL_law_1163 (scIn (by omega) hN) ?_
  refine JL_aload_n dL_law_1164 rfl rfl ?_
  refine JL_iload dL_law_1165 rfl ?_
  refine JL_iconst (v := nI 2) dL_law_1167 (by decide) ?_
  refine JL_iadd dL_law_1168 ?_
  refine JL_scg dL_law_1169 (scIn (by omega) hN) ?_
  refine JL_mod (mi := mL_law) (pc := 1170) dL_law_1170 YX9_distance rfl kL_221 hI1 hg (fun h => c_X9_distance h _ _) rfl rfl (Nat.le_of_ble_eq_true rfl) (by decide) (fun w2 z hz hI2 hO2 => ?_)
  refine JL_istore dL_law_1173 (by decide) rfl ?_
  refine JL_aload_n dL_law_1175 rfl rfl ?_
  refine JL_thr (mi := mL_law) (pc := 1176) dL_law_1176 YX9_thrown rfl kL_172 hI2 (fun h => c_X9_thrown h) rfl (Nat.le_of_ble_eq_true rfl) (by decide) ?_
  refine JL_iload dL_law_1179 rfl ?_
  refine JL_icmp_eq (tgt := 1186) dL_law_1181 (by decide) (fun _ => ?_) (fun h => absurd rfl h)
  refine JL_iload dL_law_1186 rfl ?_
  refine JL_if_ne (tgt := 1203) dL_law_1188 (by decide) (fun _ => ?_) (fun h => ?_)
  · exact JL_goto (tgt := 2989) dL_law_1203 (by decide) (k _ _ _ _ _ _ hI2)
  · have e0 := cod_0.mp ((nI_eq (b := 0) (cod_lt _ (by decide)) (by decide)).mp h)
    have hz0 := hz e0
    have hg0 := h0 e0
    refine JL_aload_n dL_law_1191 rfl rfl ?_
    refine JL_iconst (v := nI 0) dL_law_1192 (by decide) ?_
    refine KL_lald (v := g 0) dL_law_1193 hO2 (by decide) (by decide) rfl ?_
    refine JL_iload dL_law_1194 rfl ?_
    refine JL_i2l dL_law_1196 rfl ?_
    refine JL_lcmp dL_law_1197 ?_
    exact JL_if_eq (tgt := 1203) dL_law_1198 (by decide) (fun _ => JL_goto (tgt := 2989) dL_law_1203 (by decide) (k _ _ _ _ _ _ hI2)) (fun h => absurd (lgc_eq (by rw [hg0, hz0])) h)
theorem lw_c16 {sN : Nat} {sF : Nat → Int32} {w : Wd} {x m o q th i kb sb : Nat} {G : Gme} {Q : Po} {l6 l7 l8 : Option Value} (hN : sN < 2 ^ 31) (hi : i + 2 < sN) (hI : LI w x m o q G G th) (k : ∀ (w' : Wd) (G' : Gme) (th' : Nat) (l6 l7 l8 : Option Value), LI w' x m o q G' G' th' → JL sN sF 40 mL_law 2989 [some (.ref 3), some (.ref x), some (.ref m), some (.ref o), some (.ref q), some (.int (nI i)), l6, l7, l8] [] w' kb sb Q) : JL sN sF 40 mL_law 1206 [some (.ref 3), some (.ref x), some (.ref m), some (.ref o), some (.ref q), some (.int (nI i)), l6, l7, l8] [] w (kb + 1) (sb + 6) Q := by
  refine JL_aload_n dL_law_1206 rfl rfl ?_
  refine JL_aload_n dL_law_1207 rfl rfl ?_
  refine JL_iload dL_law_1208 rfl ?_
  refine JL_iconst (v := nI 1) dL_law_1210 (by decide) ?_
  refine JL_iadd dL_law_1211 ?_
  refine JL_scg dL_law_1212 (scIn (by omega) hN) ?_
  refine JL_aload_n dL_law_1213 rfl rfl ?_
  refine JL_iload dL_law_1214 rfl ?_
  refine JL_iconst (v := nI 2) dL_law_1216 (by decide) ?_
  refine JL_iadd dL_law_1217 ?_
  refine JL_scg dL_law_1218 (scIn (by omega) hN) ?_
  refine JL_aload_n dL_law_1219 rfl rfl ?_
  refine JL_help (mi := mL_law) (pc := 1220) dL_law_1220 rfl YL_distanceByRounds kL_222 hI (fun g0 h1 h2 => c_L_distanceByRounds hI.1 h1 h2 _ _) rfl rfl (Nat.le_of_ble_eq_true rfl) (by decide) (fun w1 g hg h0 hI1 => ?_)
  refine JL_istore dL_law_1223 (by decide) rfl ?_
  refine JL_aload_n dL_law_1225 rfl rfl ?_
  refine JL_aload_n dL_law_1226 rfl rfl ?_
  refine JL_iload dL_law_1227 rfl ?_
  refine JL_iconst (v := nI 1) dL_law_1229 (by decide) ?_
  refine JL_iadd dL_law_1230 ?_
  refine JL_scg dL_law_1231 (scIn (by omega) hN) ?_
  refine JL_aload_n dL_law_1232 rfl rfl ?_
  refine JL_iload dL_law_1233 rfl ?_
  refine JL_iconst (v := nI 2) dL_law_1235 (by decide) ?_
  refine JL_iadd dL_law_1236 ?_
  refine JL_scg dL_law_1237 (scIn (by omega) hN) ?_
  refine JL_mod (mi := mL_law) (pc := 1238) dL_law_1238 YX9_distanceByRounds rfl kL_224 hI1 hg (fun h => c_X9_distanceByRounds h _ _) rfl rfl (Nat.le_of_ble_eq_true rfl) (by decide) (fun w2 z hz hI2 hO2 => ?_)
  refine JL_istore dL_law_1241 (by decide) rfl ?_
  refine JL_aload_n dL_law_1243 rfl rfl ?_
  refine JL_thr (mi := mL_law) (pc := 1244) dL_law_1244 YX9_thrown rfl kL_172 hI2 (fun h => c_X9_thrown h) rfl (Nat.le_of_ble_eq_true rfl) (by decide) ?_
  refine JL_iload dL_law_1247 rfl ?_
  refine JL_icmp_eq (tgt := 1254) dL_law_1249 (by decide) (fun _ => ?_) (fun h => absurd rfl h)
  refine JL_iload dL_law_1254 rfl ?_
  refine JL_if_ne (tgt := 1271) dL_law_1256 (by decide) (fun _ => ?_) (fun h => ?_)
  · exact JL_goto (tgt := 2989) dL_law_1271 (by decide) (k _ _ _ _ _ _ hI2)
  · have e0 := cod_0.mp ((nI_eq (b := 0) (cod_lt _ (by decide)) (by decide)).mp h)
    have hz0 := hz e0
    have hg0 := h0 e0
    refine JL_aload_n dL_law_1259 rfl rfl ?_
    refine JL_iconst (v := nI 0) dL_law_1260 (by decide) ?_
    refine KL_lald (v := g 0) dL_law_1261 hO2 (by decide) (by decide) rfl ?_
    refine JL_iload dL_law_1262 rfl ?_
    refine JL_i2l dL_law_1264 rfl ?_
    refine JL_lcmp dL_law_1265 ?_
    exact JL_if_eq (tgt := 1271) dL_law_1266 (by decide) (fun _ => JL_goto (tgt := 2989) dL_law_1271 (by decide) (k _ _ _ _ _ _ hI2)) (fun h => absurd (lgc_eq (by rw [hg0, hz0])) h)
theorem lw_c17 {sN : Nat} {sF : Nat → Int32} {w : Wd} {x m o q th i kb sb : Nat} {G : Gme} {Q : Po} {l6 l7 l8 : Option Value} (hN : sN < 2 ^ 31) (hi : i + 2 < sN) (hI : LI w x m o q G G th) (k : ∀ (w' : Wd) (G' : Gme) (th' : Nat) (l6 l7 l8 : Option Value), LI w' x m o q G' G' th' → JL sN sF 40 mL_law 2989 [some (.ref 3), some (.ref x), some (.ref m), some (.ref o), some (.ref q), some (.int (nI i)), l6, l7, l8] [] w' kb sb Q) : JL sN sF 40 mL_law 1274 [some (.ref 3), some (.ref x), some (.ref m), some (.ref o), some (.ref q), some (.int (nI i)), l6, l7, l8] [] w (kb + 1) (sb + 6) Q := by
  refine JL_aload_n dL_law_1274 rfl rfl ?_
  refine JL_aload_n dL_law_1275 rfl rfl ?_
  refine JL_iload dL_law_1276 rfl ?_
  refine JL_iconst (v := nI 1) dL_law_1278 (by decide) ?_
  refine JL_iadd dL_law_1279 ?_
  refine JL_scg dL_law_1280 (scIn (by omega) hN) ?_
  refine JL_aload_n dL_law_1281 rfl rfl ?_
  refine JL_help (mi := mL_law) (pc := 1282) dL_law_1282 rfl YL_nextBlock kL_225 hI (fun g0 h1 h2 => c_L_nextBlock hI.1 h1 h2 _) rfl rfl (Nat.le_of_ble_eq_true rfl) (by decide) (fun w1 g hg h0 hI1 => ?_)
  refine JL_istore dL_law_1285 (by decide) rfl ?_
  refine JL_aload_n dL_law_1287 rfl rfl ?_
  refine JL_aload_n dL_law_1288 rfl rfl ?_
  refine JL_iload dL_law_1289 rfl ?_
  refine JL_iconst (v := nI 1) dL_law_1291 (by decide) ?_
  refine JL_iadd dL_law_1292 ?_
  refine JL_scg dL_law_1293 (scIn (by omega) hN) ?_
  refine JL_mod (mi := mL_law) (pc := 1294) dL_law_1294 YX9_nextBlock rfl kL_227 hI1 hg (fun h => c_X9_nextBlock h _) rfl rfl (Nat.le_of_ble_eq_true rfl) (by decide) (fun w2 z hz hI2 hO2 => ?_)
  refine JL_istore dL_law_1297 (by decide) rfl ?_
  refine JL_aload_n dL_law_1299 rfl rfl ?_
  refine JL_thr (mi := mL_law) (pc := 1300) dL_law_1300 YX9_thrown rfl kL_172 hI2 (fun h => c_X9_thrown h) rfl (Nat.le_of_ble_eq_true rfl) (by decide) ?_
  refine JL_iload dL_law_1303 rfl ?_
  refine JL_icmp_eq (tgt := 1310) dL_law_1305 (by decide) (fun _ => ?_) (fun h => absurd rfl h)
  refine JL_iload dL_law_1310 rfl ?_
  refine JL_if_ne (tgt := 1327) dL_law_1312 (by decide) (fun _ => ?_) (fun h => ?_)
  · exact JL_goto (tgt := 2989) dL_law_1327 (by decide) (k _ _ _ _ _ _ hI2)
  · have e0 := cod_0.mp ((nI_eq (b := 0) (cod_lt _ (by decide)) (by decide)).mp h)
    have hz0 := hz e0
    have hg0 := h0 e0
    refine JL_aload_n dL_law_1315 rfl rfl ?_
    refine JL_iconst (v := nI 0) dL_law_1316 (by decide) ?_
    refine KL_lald (v := g 0) dL_law_1317 hO2 (by decide) (by decide) rfl ?_
    refine JL_iload dL_law_1318 rfl ?_
    refine JL_i2l dL_law_1320 rfl ?_
    refine JL_lcmp dL_law_1321 ?_
    exact JL_if_eq (tgt := 1327) dL_law_1322 (by decide) (fun _ => JL_goto (tgt := 2989) dL_law_1327 (by decide) (k _ _ _ _ _ _ hI2)) (fun h => absurd (lgc_eq (by rw [hg0, hz0])) h)
theorem lw_c18 {sN : Nat} {sF : Nat → Int32} {w : Wd} {x m o q th i kb sb : Nat} {G : Gme} {Q : Po} {l6 l7 l8 : Option Value} (hN : sN < 2 ^ 31) (hi : i + 2 < sN) (hI : LI w x m o q G G th) (k : ∀ (w' : Wd) (G' : Gme) (th' : Nat) (l6 l7 l8 : Option Value), LI w' x m o q G' G' th' → JL sN sF 40 mL_law 2989 [some (.ref 3), some (.ref x), some (.ref m), some (.ref o), some (.ref q), some (.int (nI i)), l6, l7, l8] [] w' kb sb Q) : JL sN sF 40 mL_law 1330 [some (.ref 3), some (.ref x), some (.ref m), some (.ref o), some (.ref q), some (.int (nI i)), l6, l7, l8] [] w (kb + 1) (sb + 6) Q := by
  refine JL_aload_n dL_law_1330 rfl rfl ?_
  refine JL_cls (mi := mL_law) (pc := 1331) dL_law_1331 YX8_partCount rfl kL_228 hI (fun h => c_X8_partCount h) rfl rfl rfl (Nat.le_of_ble_eq_true rfl) (by decide) (fun w1 hI1 => ?_)
  obtain ⟨g, hO⟩ := hI1.2.2.1
  refine JL_aload_n dL_law_1334 rfl rfl ?_
  refine JL_mod (mi := mL_law) (pc := 1335) dL_law_1335 YX9_partCount rfl kL_231 hI1 hO (fun h => c_X9_partCount h) rfl rfl (Nat.le_of_ble_eq_true rfl) (by decide) (fun w2 z hz hI2 hO2 => ?_)
  have hz0 := hz rfl
  exact JL_icmp_eq (tgt := 2989) dL_law_1338 (by decide) (fun _ => k _ _ _ _ _ _ hI2) (fun h => absurd hz0.symm h)
theorem lw_c19 {sN : Nat} {sF : Nat → Int32} {w : Wd} {x m o q th i kb sb : Nat} {G : Gme} {Q : Po} {l6 l7 l8 : Option Value} (hN : sN < 2 ^ 31) (hi : i + 2 < sN) (hI : LI w x m o q G G th) (k : ∀ (w' : Wd) (G' : Gme) (th' : Nat) (l6 l7 l8 : Option Value), LI w' x m o q G' G' th' → JL sN sF 40 mL_law 2989 [some (.ref 3), some (.ref x), some (.ref m), some (.ref o), some (.ref q), some (.int (nI i)), l6, l7, l8] [] w' kb sb Q) : JL sN sF 40 mL_law 1343 [some (.ref 3), some (.ref x), some (.ref m), some (.ref o), some (.ref q), some (.int (nI i)), l6, l7, l8] [] w (kb + 1) (sb + 6) Q := by
  refine JL_aload_n dL_law_1343 rfl rfl ?_
  refine JL_cls (mi := mL_law) (pc := 1344) dL_law_1344 YX8_partCountByUnions rfl kL_232 hI (fun h => c_X8_partCountByUnions h) rfl rfl rfl (Nat.le_of_ble_eq_true rfl) (by decide) (fun w1 hI1 => ?_)
  obtain ⟨g, hO⟩ := hI1.2.2.1
  refine JL_aload_n dL_law_1347 rfl rfl ?_
  refine JL_mod (mi := mL_law) (pc := 1348) dL_law_1348 YX9_partCountByUnions rfl kL_235 hI1 hO (fun h => c_X9_partCountByUnions h) rfl rfl (Nat.le_of_ble_eq_true rfl) (by decide) (fun w2 z hz hI2 hO2 => ?_)
  have hz0 := hz rfl
  exact JL_icmp_eq (tgt := 2989) dL_law_1351 (by decide) (fun _ => k _ _ _ _ _ _ hI2) (fun h => absurd hz0.symm h)
end JCASES

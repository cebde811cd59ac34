/-! THE LAW: its cases -/
section JCASES
theorem lw_c50 {sN : Nat} {sF : Nat → Int32} {w : Wd} {x m o q th i kb sb : Nat} {G : Gme} {Q : Po} {l6 l7 l8 : Option Value} (hN : sN < 2 ^ 31) (hi : i + 2 < sN) (hI : LI w x m o q G G th) (k : ∀ (w' : Wd) (G' : Gme) (th' : Nat) (l6 l7 l8 : Option Value), LI w' x m o q G' G' th' → JL sN sF 40 mL_law 2989 [some (.ref 3), some (.ref x), some (.ref m), some (.ref o), some (.ref q), some (.int (nI i)), l6, l7, l8] [] w' kb sb Q) : JL sN sF 40 mL_law 2787 [some (.ref 3), some (.ref x), some (.ref m), some (.ref o), some (.ref q), some (.int (nI i)), l6, l7, l8] [] w (kb + 1) (sb + 6) Q := by
  refine JL_aload_n dL_law_2787 rfl rfl ?_
  refine JL_aload_n dL_law_2788 rfl rfl ?_
  refine JL_help (mi := mL_law) (pc := 2789) dL_law_2789 rfl YL_errorPosition kL_337 hI (fun g0 h1 h2 => c_L_errorPosition hI.1 h1 h2) rfl rfl (Nat.le_of_ble_eq_true rfl) (by decide) (fun w1 g hg h0 hI1 => ?_)
  refine JL_istore dL_law_2792 (by decide) rfl ?_
  refine JL_aload_n dL_law_2794 rfl rfl ?_
  refine JL_mod (mi := mL_law) (pc := 2795) dL_law_2795 YX9_errorPosition rfl kL_339 hI1 hg (fun h => c_X9_errorPosition h) rfl rfl (Nat.le_of_ble_eq_true rfl) (by decide) (fun w2 z hz hI2 hO2 => ?_)
  refine JL_istore dL_law_2798 (by decide) rfl ?_
  refine JL_aload_n dL_law_2800 rfl rfl ?_
  refine JL_thr (mi := mL_law) (pc := 2801) dL_law_2801 YX9_thrown rfl kL_172 hI2 (fun h => c_X9_thrown h) rfl (Nat.le_of_ble_eq_true rfl) (by decide) ?_
  refine JL_iload dL_law_2804 rfl ?_
  refine JL_icmp_eq (tgt := 2811) dL_law_2806 (by decide) (fun _ => ?_) (fun h => absurd rfl h)
  refine JL_iload dL_law_2811 rfl ?_
  refine JL_if_ne (tgt := 2828) dL_law_2813 (by decide) (fun _ => ?_) (fun h => ?_)
  · exact JL_goto (tgt := 2989) dL_law_2828 (by decide) (k _ _ _ _ _ _ hI2)
  · have e0 := cod_0.mp ((nI_eq (b := 0) (cod_lt _ (by decide)) (by decide)).mp h)
    have hz0 := hz e0
    have hg0 := h0 e0
    refine JL_aload_n dL_law_2816 rfl rfl ?_
    refine JL_iconst (v := nI 0) dL_law_2817 (by decide) ?_
    refine KL_lald (v := g 0) dL_law_2818 hO2 (by decide) (by decide) rfl ?_
    refine JL_iload dL_law_2819 rfl ?_
    refine JL_i2l dL_law_2821 rfl ?_
    refine JL_lcmp dL_law_2822 ?_
    exact JL_if_eq (tgt := 2828) dL_law_2823 (by decide) (fun _ => JL_goto (tgt := 2989) dL_law_2828 (by decide) (k _ _ _ _ _ _ hI2)) (fun h => absurd (lgc_eq (by rw [hg0, hz0])) h)
theorem lw_c51 {sN : Nat} {sF : Nat → Int32} {w : Wd} {x m o q th i kb sb : Nat} {G : Gme} {Q : Po} {l6 l7 l8 : Option Value} (hN : sN < 2 ^ 31) (hi : i + 2 < sN) (hI : LI w x m o q G G th) (k : ∀ (w' : Wd) (G' : Gme) (th' : Nat) (l6 l7 l8 : Option Value), LI w' x m o q G' G' th' → JL sN sF 40 mL_law 2989 [some (.ref 3), some (.ref x), some (.ref m), some (.ref o), some (.ref q), some (.int (nI i)), l6, l7, l8] [] w' kb sb Q) : JL sN sF 40 mL_law 2831 [some (.ref 3), some (.ref x), some (.ref m), some (.ref o), some (.ref q), some (.int (nI i)), l6, l7, l8] [] w (kb + 1) (sb + 6) Q := by
  refine JL_aload_n dL_law_2831 rfl rfl ?_
  refine JL_aload_n dL_law_2832 rfl rfl ?_
  refine JL_help (mi := mL_law) (pc := 2833) dL_law_2833 rfl YL_failedCommand kL_340 hI (fun g0 h1 h2 => c_L_failedCommand hI.1 h1 h2) rfl rfl (Nat.le_of_ble_eq_true rfl) (by decide) (fun w1 g hg h0 hI1 => ?_)
  refine JL_istore dL_law_2836 (by decide) rfl ?_
  refine JL_aload_n dL_law_2838 rfl rfl ?_
  refine JL_mod (mi := mL_law) (pc := 2839) dL_law_2839 YX9_failedCommand rfl kL_342 hI1 hg (fun h => c_X9_failedCommand h) rfl rfl (Nat.le_of_ble_eq_true rfl) (by decide) (fun w2 z hz hI2 hO2 => ?_)
  refine JL_istore dL_law_2842 (by decide) rfl ?_
  refine JL_aload_n dL_law_2844 rfl rfl ?_
  refine JL_thr (mi := mL_law) (pc := 2845) dL_law_2845 YX9_thrown rfl kL_172 hI2 (fun h => c_X9_thrown h) rfl (Nat.le_of_ble_eq_true rfl) (by decide) ?_
  refine JL_iload dL_law_2848 rfl ?_
  refine JL_icmp_eq (tgt := 2855) dL_law_2850 (by decide) (fun _ => ?_) (fun h => absurd rfl h)
  refine JL_iload dL_law_2855 rfl ?_
  refine JL_if_ne (tgt := 2872) dL_law_2857 (by decide) (fun _ => ?_) (fun h => ?_)
  · exact JL_goto (tgt := 2989) dL_law_2872 (by decide) (k _ _ _ _ _ _ hI2)
  · have e0 := cod_0.mp ((nI_eq (b := 0) (cod_lt _ (by decide)) (by decide)).mp h)
    have hz0 := hz e0
    have hg0 := h0 e0
    refine JL_aload_n dL_law_2860 rfl rfl ?_
    refine JL_iconst (v := nI 0) dL_law_2861 (by decide) ?_
    refine KL_lald (v := g 0) dL_law_2862 hO2 (by decide) (by decide) rfl ?_
    refine JL_iload dL_law_2863 rfl ?_
    refine JL_i2l dL_law_2865 rfl ?_
    refine JL_lcmp dL_law_2866 ?_
    exact JL_if_eq (tgt := 2872) dL_law_2867 (by decide) (fun _ => JL_goto (tgt := 2989) dL_law_2872 (by decide) (k _ _ _ _ _ _ hI2)) (fun h => absurd (lgc_eq (by rw [hg0, hz0])) h)
theorem lw_c52 {sN : Nat} {sF : Nat → Int32} {w : Wd} {x m o q th i kb sb : Nat} {G : Gme} {Q : Po} {l6 l7 l8 : Option Value} (hN : sN < 2 ^ 31) (hi : i + 2 < sN) (hI : LI w x m o q G G th) (k : ∀ (w' : Wd) (G' : Gme) (th' : Nat) (l6 l7 l8 : Option Value), LI w' x m o q G' G' th' → JL sN sF 40 mL_law 2989 [some (.ref 3), some (.ref x), some (.ref m), some (.ref o), some (.ref q), some (.int (nI i)), l6, l7, l8] [] w' kb sb Q) : JL sN sF 40 mL_law 2875 [some (.ref 3), some (.ref x), some (.ref m), some (.ref o), some (.ref q), some (.int (nI i)), l6, l7, l8] [] w (kb + 1) (sb + 6) Q := by
  refine JL_aload_n dL_law_2875 rfl rfl ?_
  refine JL_aload_n dL_law_2876 rfl rfl ?_
  refine JL_help (mi := mL_law) (pc := 2877) dL_law_2877 rfl YL_undo kL_343 hI (fun g0 h1 h2 => c_L_undo hI.1 h1 h2) rfl rfl (Nat.le_of_ble_eq_true rfl) (by decide) (fun w1 g hg h0 hI1 => ?_)
  refine JL_istore dL_law_2880 (by decide) rfl ?_
  refine JL_aload_n dL_law_2882 rfl rfl ?_
  refine JL_mod (mi := mL_law) (pc := 2883) dL_law_2883 YX9_undo rfl kL_345 hI1 hg (fun h => c_X9_undo h) rfl rfl (Nat.le_of_ble_eq_true rfl) (by decide) (fun w2 z hz hI2 hO2 => ?_)
  refine JL_istore dL_law_2886 (by decide) rfl ?_
  refine JL_aload_n dL_law_2888 rfl rfl ?_
  refine JL_thr (mi := mL_law) (pc := 2889) dL_law_2889 YX9_thrown rfl kL_172 hI2 (fun h => c_X9_thrown h) rfl (Nat.le_of_ble_eq_true rfl) (by decide) ?_
  refine JL_iload dL_law_2892 rfl ?_
  refine JL_icmp_eq (tgt := 2899) dL_law_2894 (by decide) (fun _ => ?_) (fun h => absurd rfl h)
  refine JL_iload dL_law_2899 rfl ?_
  refine JL_if_ne (tgt := 2916) dL_law_2901 (by decide) (fun _ => ?_) (fun h => ?_)
  · exact JL_goto (tgt := 2989) dL_law_2916 (by decide) (k _ _ _ _ _ _ hI2)
  · have e0 := cod_0.mp ((nI_eq (b := 0) (cod_lt _ (by decide)) (by decide)).mp h)
    have hz0 := hz e0
    have hg0 := h0 e0
    refine JL_aload_n dL_law_2904 rfl rfl ?_
    refine JL_iconst (v := nI 0) dL_law_2905 (by decide) ?_
    refine KL_lald (v := g 0) dL_law_2906 hO2 (by decide) (by decide) rfl ?_
    refine JL_iload dL_law_2907 rfl ?_
    refine JL_i2l dL_law_2909 rfl ?_
    refine JL_lcmp dL_law_2910 ?_
    exact JL_if_eq (tgt := 2916) dL_law_2911 (by decide) (fun _ => JL_goto (tgt := 2989) dL_law_2916 (by decide) (k _ _ _ _ _ _ hI2)) (fun h => absurd (lgc_eq (by rw [hg0, hz0])) h)
theorem lw_c53 {sN : Nat} {sF : Nat → Int32} {w : Wd} {x m o q th i kb sb : Nat} {G : Gme} {Q : Po} {l6 l7 l8 : Option Value} (hN : sN < 2 ^ 31) (hi : i + 2 < sN) (hI : LI w x m o q G G th) (k : ∀ (w' : Wd) (G' : Gme) (th' : Nat) (l6 l7 l8 : Option Value), LI w' x m o q G' G' th' → JL sN sF 40 mL_law 2989 [some (.ref 3), some (.ref x), some (.ref m), some (.ref o), some (.ref q), some (.int (nI i)), l6, l7, l8] [] w' kb sb Q) : JL sN sF 40 mL_law 2919 [some (.ref 3), some (.ref x), some (.ref m), some (.ref o), some (.ref q), some (.int (nI i)), l6, l7, l8] [] w (kb + 1) (sb + 6) Q := by
  refine JL_aload_n dL_law_2919 rfl rfl ?_
  refine JL_cls (mi := mL_law) (pc := 2920) dL_law_2920 YX8_undoCount rfl kL_346 hI (fun h => c_X8_undoCount h) rfl rfl rfl (Nat.le_of_ble_eq_true rfl) (by decide) (fun w1 hI1 => ?_)
  obtain ⟨g, hO⟩ := hI1.2.2.1
  refine JL_aload_n dL_law_2923 rfl rfl ?_
  refine JL_mod (mi := mL_law) (pc := 2924) dL_law_2924 YX9_undoCount rfl kL_349 hI1 hO (fun h => c_X9_undoCount h) rfl rfl (Nat.le_of_ble_eq_true rfl) (by decide) (fun w2 z hz hI2 hO2 => ?_)
  have hz0 := hz rfl
  exact JL_icmp_eq (tgt := 2989) dL_law_2927 (by decide) (fun _ => k _ _ _ _ _ _ hI2) (fun h => absurd hz0.symm h)
theorem lw_c54 {sN : Nat} {sF : Nat → Int32} {w : Wd} {x m o q th i kb sb : Nat} {G : Gme} {Q : Po} {l6 l7 l8 : Option Value} (hN : sN < 2 ^ 31) (hi : i + 2 < sN) (hI : LI w x m o q G G th) (k : ∀ (w' : Wd) (G' : Gme) (th' : Nat) (l6 l7 l8 : Option Value), LI w' x m o q G' G' th' → JL sN sF 40 mL_law 2989 [some (.ref 3), some (.ref x), some (.ref m), some (.ref o), some (.ref q), some (.int (nI i)), l6, l7, l8] [] w' kb sb Q) : JL sN sF 40 mL_law 2932 [some (.ref 3), some (.ref x), some (.ref m), some (.ref o), some (.ref q), some (.int (nI i)), l6, l7, l8] [] w (kb + 1) (sb + 6) Q := by
  refine JL_aload_n dL_law_2932 rfl rfl ?_
  refine JL_cls (mi := mL_law) (pc := 2933) dL_law_2933 YX8_save rfl kL_350 hI (fun h => c_X8_save h) rfl rfl rfl (Nat.le_of_ble_eq_true rfl) (by decide) (fun w1 hI1 => ?_)
  obtain ⟨g, hO⟩ := hI1.2.2.1
  refine JL_aload_n dL_law_2936 rfl rfl ?_
  refine JL_mod (mi := mL_law) (pc := 2937) dL_law_2937 YX9_save rfl kL_353 hI1 hO (fun h => c_X9_save h) rfl rfl (Nat.le_of_ble_eq_true rfl) (by decide) (fun w2 z hz hI2 hO2 => ?_)
  have hz0 := hz rfl
  exact JL_icmp_eq (tgt := 2989) dL_law_2940 (by decide) (fun _ => k _ _ _ _ _ _ hI2) (fun h => absurd hz0.symm h)
theorem lw_c55 {sN : Nat} {sF : Nat → Int32} {w : Wd} {x m o q th i kb sb : Nat} {G : Gme} {Q : Po} {l6 l7 l8 : Option Value} (hN : sN < 2 ^ 31) (hi : i + 2 < sN) (hI : LI w x m o q G G th) (k : ∀ (w' : Wd) (G' : Gme) (th' : Nat) (l6 l7 l8 : Option Value), LI w' x m o q G' G' th' → JL sN sF 40 mL_law 2989 [some (.ref 3), some (.ref x), some (.ref m), some (.ref o), some (.ref q), some (.int (nI i)), l6, l7, l8] [] w' kb sb Q) : JL sN sF 40 mL_law 2945 [some (.ref 3), some (.ref x), some (.ref m), some (.ref o), some (.ref q), some (.int (nI i)), l6, l7, l8] [] w (kb + 1) (sb + 6) Q := by
  refine JL_aload_n dL_law_2945 rfl rfl ?_
  refine JL_aload_n dL_law_2946 rfl rfl ?_
  refine JL_help (mi := mL_law) (pc := 2947) dL_law_2947 rfl YL_restore kL_354 hI (fun g0 h1 h2 => c_L_restore hI.1 h1 h2) rfl rfl (Nat.le_of_ble_eq_true rfl) (by decide) (fun w1 g hg h0 hI1 => ?_)
  refine JL_istore dL_law_2950 (by decide) rfl ?_
  refine JL_aload_n dL_law_2952 rfl rfl ?_
  refine JL_mod (mi := mL_law) (pc := 2953) dL_law_2953 YX9_restore rfl kL_356 hI1 hg (fun h => c_X9_restore h) rfl rfl (Nat.le_of_ble_eq_true rfl) (by decide) (fun w2 z hz hI2 hO2 => ?_)
  refine JL_istore dL_law_2956 (by decide) rfl ?_
  refine JL_aload_n dL_law_2958 rfl rfl ?_
  refine JL_thr (mi := mL_law) (pc := 2959) dL_law_2959 YX9_thrown rfl kL_172 hI2 (fun h => c_X9_thrown h) rfl (Nat.le_of_ble_eq_true rfl) (by decide) ?_
  refine JL_iload dL_law_2962 rfl ?_
  refine JL_icmp_eq (tgt := 2969) dL_law_2964 (by decide) (fun _ => ?_) (fun h => absurd rfl h)
  refine JL_iload dL_law_2969 rfl ?_
  refine JL_if_ne (tgt := 2986) dL_law_2971 (by decide) (fun _ => ?_) (fun h => ?_)
  · exact JL_goto (tgt := 2989) dL_law_2986 (by decide) (k _ _ _ _ _ _ hI2)
  · have e0 := cod_0.mp ((nI_eq (b := 0) (cod_lt _ (by decide)) (by decide)).mp h)
    have hz0 := hz e0
    have hg0 := h0 e0
    refine JL_aload_n dL_law_2974 rfl rfl ?_
    refine JL_iconst (v := nI 0) dL_law_2975 (by decide) ?_
    refine KL_lald (v := g 0) dL_law_2976 hO2 (by decide) (by decide) rfl ?_
    refine JL_iload dL_law_2977 rfl ?_
    refine JL_i2l dL_law_2979 rfl ?_
    refine JL_lcmp dL_law_2980 ?_
    exact JL_if_eq (tgt := 2986) dL_law_2981 (by decide) (fun _ => JL_goto (tgt := 2989) dL_law_2986 (by decide) (k _ _ _ _ _ _ hI2)) (fun h => absurd (lgc_eq (by rw [hg0, hz0])) h)
end JCASES

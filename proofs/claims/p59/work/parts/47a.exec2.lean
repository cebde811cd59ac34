/-! THE CLASS: commands done -/
section JEXEC2
theorem mtc_cnt {t : Nat → Nat} {n : Nat} : ∀ (l : List Nat) (p : Nat) (ns : List Nat) (q : Nat) (ms : List Nat), mtc t n l p ns = (true, q, ms) → ms.length = ns.length + cntD l := by
  intro l
  induction l with
  | nil => intro p ns q ms h; cases h; rfl
  | cons c cs ih =>
    intro p ns q ms h
    rw [show mtc t n (c :: cs) p ns = if c = 49 ∨ c = 50 then (if isD t n p = true then mtc t n cs (p + dgs t n c p) (ns ++ [numA t p (dgs t n c p)]) else (false, p, ns)) else if p < n ∧ t p = c then mtc t n cs (p + 1) ns else (false, p, ns) from rfl] at h
    by_cases hc : c = 49 ∨ c = 50
    · rw [if_pos hc] at h
      split at h
      · have h2 := ih _ _ _ _ h
        rw [List.length_append] at h2
        rw [cntD_d hc]
        have h2 : ms.length = ns.length + 1 + _ := h2
        omega
      · cases h
    · rw [if_neg hc] at h
      split at h
      · have h2 := ih _ _ _ _ h
        rw [cntD_c hc]
        exact h2
      · cases h
def nmC (k : Nat) : Nat := ([1, 1, 2, 2, 2, 1, 2, 1, 1] : List Nat).getD k 0
theorem FM_nm : ∀ k, k < 9 → cntD (FM k) = nmC k := by decide +kernel
theorem rdC_cnt {t : Nat → Nat} {n p p' : Nat} {c : Nat × List Nat} {e : Bool} (h : rdC t n p = .inr (c, p', e)) : c.1 < 9 ∧ c.2.length = nmC c.1 := by
  have g : ∀ (c : Nat × List Nat) (q : Nat), pOne t n p = (some c, q) → c.1 < 9 ∧ c.2.length = nmC c.1 := fun c q hq => by
    obtain ⟨h1, h2, -⟩ := pOne_some hq
    refine ⟨h1, ?_⟩
    rw [← FM_nm _ h1]
    have := mtc_cnt _ _ _ _ _ h2
    rw [this]
    exact Nat.zero_add _
  unfold rdC at h
  split at h
  · cases h
  · rename_i c' q hq
    split at h
    · cases h; exact g _ _ hq
    · split at h
      · cases h; exact g _ _ hq
      · cases h
theorem rok_do {S : St} (h : WF S) (cm : Nat × List Nat) : ROK S (doC S cm) := by
  unfold doC
  split
  · exact rok_add h _ _
  · exact rok_add h _ _
  · exact rok_join h _ _
  · exact rok_train h _ _
  · exact rok_aim h _ _
  · exact rok_cat h _
  · exact rok_hold h _ _
  · exact rok_resc h _
  · exact rok_tick h _
theorem ans_ge {S : St} {R : Rs} (h : ROK S R) : 0 ≤ ansC R ↔ R.1 = 0 := by
  obtain ⟨h1, h2, h3⟩ := h
  constructor
  · intro g
    by_cases e : R.1 = 0
    · exact e
    · exfalso
      have : R.1 = 1 ∨ R.1 = 2 ∨ R.1 = 3 ∨ R.1 = 4 ∨ R.1 = 5 := by omega
      rw [show ansC R = refC R.1 from if_neg e] at g
      rcases this with z | z | z | z | z <;> (rw [z] at g; revert g; decide)
  · intro e
    obtain ⟨k, hk, hv⟩ := h3 e
    rw [show ansC R = R.2.1 from if_pos e, hv, Int32.le_iff_toInt_le, nI_toInt hk]
    exact Int.natCast_nonneg k
theorem SFZ_sm : ("SofaRailway$1", "$SwitchMap$SofaRailway$Command", "[I", (.ref 1 : Value)) ∈ SFZ := List.mem_of_getElem? (i := 1) rfl
theorem SFT_sm : ((.int : FieldType), 1, 9, (fun j => (.int (nI (j + 1)) : Value))) ∈ SFT := List.mem_append_left _ (List.mem_cons_of_mem _ List.mem_cons_self)
theorem SFO_cm {i : Nat} (h : i < 9) : (RX1, 10 + i) ∈ SFO := List.mem_append_left _ (List.mem_map.mpr ⟨i, List.mem_range.mpr h, rfl⟩)
theorem c_ordinal {w : Wd} {k : Nat} (hk : k < 9) : MC 2 mJx29ce0_ordinal_8abf5 0 0 [.ref (10 + k)] w (RI (.int (nI k)) w) := by
  refine MC_j pnJx29ce0 rfl rfl rfl (Or.inr (fun E w h => by cases h.1)) ?_
  show J 2 mJx29ce0_ordinal_8abf5 0 [some (.ref (10 + k))] [] w 0 0 _
  refine J_aload_n dJx29ce0_ordinal_8abf5_0 rfl rfl ?_
  refine J_sgetf dJx29ce0_ordinal_8abf5_1 (SFF_or hk) rfl (by omega) gJx29ce0_7 ?_
  exact J_ireturn dJx29ce0_ordinal_8abf5_4 rfl rfl ⟨rfl, rfl⟩

theorem c_X8_perform {w : Wd} {x : Nat} {G : Gme} {S : St} (hX0 : w.1 x = xCell x G) (hL : RepC w (x + 1) S) (hT : RepT w (x + 115)) {cm : Nat × List Nat} (h9 : cm.1 < 9) (hlen : cm.2.length = nmC cm.1) {y1 y2 : Int32} (hn : numsOk cm.2 y1 y2) : MC 7 mX8_perform 0 0 [.ref x, .ref (10 + cm.1), .int y1, .int y2] w (PT w (x + 1) (x + 115) (doC S cm)) := by
  refine MC_j pnX8 rfl rfl rfl (Or.inr (fun E w h => RP_no E w h)) ?_
  show J 7 mX8_perform 0 [some (.ref x), some (.ref (10 + cm.1)), some (.int y1), some (.int y2)] [] w 0 0 _
  obtain ⟨k0, ns⟩ := cm
  obtain ⟨hn1, hn2⟩ := hn
  have hk0 : k0 = 0 ∨ k0 = 1 ∨ k0 = 2 ∨ k0 = 3 ∨ k0 = 4 ∨ k0 = 5 ∨ k0 = 6 ∨ k0 = 7 ∨ k0 = 8 := by have : k0 < 9 := h9; omega
  rcases hk0 with rfl | rfl | rfl | rfl | rfl | rfl | rfl | rfl | rfl
  · have e1 := hn1 (show 1 ≤ ns.length by have : ns.length = 1 := hlen; omega)
    subst e1
    refine J_getstatic (v := .ref 1) dX8_perform_0 SFZ_sm (sv_r (by omega)) gX8_365 ?_
    refine J_aload_n dX8_perform_3 rfl rfl ?_
    refine J_callU (mi := mX8_perform) (pc := 4) (kb := 0) (sb := 0) (kb' := 0) (sb' := 0) dX8_perform_4 YJx29ce0_ordinal_8abf5 rfl kX8_370 (Or.inr (SFO_cm (i := 0) (by decide))) (c_ordinal (k := 0) (by decide)) (fun E w h => by cases h.1) rfl rfl (Nat.le_of_ble_eq_true rfl) (by decide) (fun v4 w4 q4 => ?_)
    obtain ⟨q5, rfl⟩ := q4
    cases q5
    refine J_siald (v := .int (nI 1)) dX8_perform_7 SFT_sm (by decide) (vp_in_nI (n := 0) (N := 9) (by decide) (by decide)) (by rw [nI_clamp (by decide)]) rfl ?_
    refine J_tableIn (tgt := 60) (off := 52) dX8_perform_8 (by decide) (by decide) (by decide) (by decide) ?_
    refine J_aload_n dX8_perform_60 rfl rfl ?_
    refine J_getfield dX8_perform_61 fX8_12 hX0 rfl ?_
    refine J_iload_n dX8_perform_64 rfl rfl ?_
    refine J_iconst (v := b2i false) dX8_perform_65 (by decide) ?_
    refine K_callVp dX8_perform_66 YX4_placeBlock kX8_72 (RepC.rc hL) (c_X4_placeBlock hL (nI (ns.getD 0 0)) false) rfl rfl (Nat.le_of_ble_eq_true rfl) (by decide) (fun v66 w66 q66 => ?_)
    obtain ⟨rfl, hC2, hF2⟩ := q66
    exact J_ireturn dX8_perform_69 rfl rfl (RP_i ⟨rfl, hC2, hT.kp (fun j hj => hF2.1 _ (by omega)), F2.of hF2⟩)
  · have e1 := hn1 (show 1 ≤ ns.length by have : ns.length = 1 := hlen; omega)
    subst e1
    refine J_getstatic (v := .ref 1) dX8_perform_0 SFZ_sm (sv_r (by omega)) gX8_365 ?_
    refine J_aload_n dX8_perform_3 rfl rfl ?_
    refine J_callU (mi := mX8_perform) (pc := 4) (kb := 0) (sb := 0) (kb' := 0) (sb' := 0) dX8_perform_4 YJx29ce0_ordinal_8abf5 rfl kX8_370 (Or.inr (SFO_cm (i := 1) (by decide))) (c_ordinal (k := 1) (by decide)) (fun E w h => by cases h.1) rfl rfl (Nat.le_of_ble_eq_true rfl) (by decide) (fun v4 w4 q4 => ?_)
    obtain ⟨q5, rfl⟩ := q4
    cases q5
    refine J_siald (v := .int (nI 2)) dX8_perform_7 SFT_sm (by decide) (vp_in_nI (n := 1) (N := 9) (by decide) (by decide)) (by rw [nI_clamp (by decide)]) rfl ?_
    refine J_tableIn (tgt := 70) (off := 62) dX8_perform_8 (by decide) (by decide) (by decide) (by decide) ?_
    refine J_aload_n dX8_perform_70 rfl rfl ?_
    refine J_getfield dX8_perform_71 fX8_12 hX0 rfl ?_
    refine J_iload_n dX8_perform_74 rfl rfl ?_
    refine J_iconst (v := b2i true) dX8_perform_75 (by decide) ?_
    refine K_callVp dX8_perform_76 YX4_placeBlock kX8_72 (RepC.rc hL) (c_X4_placeBlock hL (nI (ns.getD 0 0)) true) rfl rfl (Nat.le_of_ble_eq_true rfl) (by decide) (fun v76 w76 q76 => ?_)
    obtain ⟨rfl, hC2, hF2⟩ := q76
    exact J_ireturn dX8_perform_79 rfl rfl (RP_i ⟨rfl, hC2, hT.kp (fun j hj => hF2.1 _ (by omega)), F2.of hF2⟩)
  · have e1 := hn1 (show 1 ≤ ns.length by have : ns.length = 2 := hlen; omega)
    subst e1
    have e2 := hn2 (show 2 ≤ ns.length by have : ns.length = 2 := hlen; omega)
    subst e2
    refine J_getstatic (v := .ref 1) dX8_perform_0 SFZ_sm (sv_r (by omega)) gX8_365 ?_
    refine J_aload_n dX8_perform_3 rfl rfl ?_
    refine J_callU (mi := mX8_perform) (pc := 4) (kb := 0) (sb := 0) (kb' := 0) (sb' := 0) dX8_perform_4 YJx29ce0_ordinal_8abf5 rfl kX8_370 (Or.inr (SFO_cm (i := 2) (by decide))) (c_ordinal (k := 2) (by decide)) (fun E w h => by cases h.1) rfl rfl (Nat.le_of_ble_eq_true rfl) (by decide) (fun v4 w4 q4 => ?_)
    obtain ⟨q5, rfl⟩ := q4
    cases q5
    refine J_siald (v := .int (nI 3)) dX8_perform_7 SFT_sm (by decide) (vp_in_nI (n := 2) (N := 9) (by decide) (by decide)) (by rw [nI_clamp (by decide)]) rfl ?_
    refine J_tableIn (tgt := 80) (off := 72) dX8_perform_8 (by decide) (by decide) (by decide) (by decide) ?_
    refine J_aload_n dX8_perform_80 rfl rfl ?_
    refine J_getfield dX8_perform_81 fX8_12 hX0 rfl ?_
    refine J_iload_n dX8_perform_84 rfl rfl ?_
    refine J_iload_n dX8_perform_85 rfl rfl ?_
    refine K_callVp dX8_perform_86 YX4_join kX8_80 (RepC.rc hL) (c_X4_join hL (nI (ns.getD 0 0)) (nI (ns.getD 1 0))) rfl rfl (Nat.le_of_ble_eq_true rfl) (by decide) (fun v86 w86 q86 => ?_)
    obtain ⟨rfl, hC2, hF2⟩ := q86
    exact J_ireturn dX8_perform_89 rfl rfl (RP_i ⟨rfl, hC2, hT.kp (fun j hj => hF2.1 _ (by omega)), F2.of hF2⟩)
  · have e1 := hn1 (show 1 ≤ ns.length by have : ns.length = 2 := hlen; omega)
    subst e1
    have e2 := hn2 (show 2 ≤ ns.length by have : ns.length = 2 := hlen; omega)
    subst e2
    refine J_getstatic (v := .ref 1) dX8_perform_0 SFZ_sm (sv_r (by omega)) gX8_365 ?_
    refine J_aload_n dX8_perform_3 rfl rfl ?_
    refine J_callU (mi := mX8_perform) (pc := 4) (kb := 0) (sb := 0) (kb' := 0) (sb' := 0) dX8_perform_4 YJx29ce0_ordinal_8abf5 rfl kX8_370 (Or.inr (SFO_cm (i := 3) (by decide))) (c_ordinal (k := 3) (by decide)) (fun E w h => by cases h.1) rfl rfl (Nat.le_of_ble_eq_true rfl) (by decide) (fun v4 w4 q4 => ?_)
    obtain ⟨q5, rfl⟩ := q4
    cases q5
    refine J_siald (v := .int (nI 4)) dX8_perform_7 SFT_sm (by decide) (vp_in_nI (n := 3) (N := 9) (by decide) (by decide)) (by rw [nI_clamp (by decide)]) rfl ?_
    refine J_tableIn (tgt := 90) (off := 82) dX8_perform_8 (by decide) (by decide) (by decide) (by decide) ?_
    refine J_aload_n dX8_perform_90 rfl rfl ?_
    refine J_getfield dX8_perform_91 fX8_12 hX0 rfl ?_
    refine J_iload_n dX8_perform_94 rfl rfl ?_
    refine J_iload_n dX8_perform_95 rfl rfl ?_
    refine K_callVp dX8_perform_96 YX4_placeTrain kX8_168 (RepC.rc hL) (c_X4_placeTrain hL (nI (ns.getD 0 0)) (nI (ns.getD 1 0))) rfl rfl (Nat.le_of_ble_eq_true rfl) (by decide) (fun v96 w96 q96 => ?_)
    obtain ⟨rfl, hC2, hF2⟩ := q96
    exact J_ireturn dX8_perform_99 rfl rfl (RP_i ⟨rfl, hC2, hT.kp (fun j hj => hF2.1 _ (by omega)), F2.of hF2⟩)
  · have e1 := hn1 (show 1 ≤ ns.length by have : ns.length = 2 := hlen; omega)
    subst e1
    have e2 := hn2 (show 2 ≤ ns.length by have : ns.length = 2 := hlen; omega)
    subst e2
    refine J_getstatic (v := .ref 1) dX8_perform_0 SFZ_sm (sv_r (by omega)) gX8_365 ?_
    refine J_aload_n dX8_perform_3 rfl rfl ?_
    refine J_callU (mi := mX8_perform) (pc := 4) (kb := 0) (sb := 0) (kb' := 0) (sb' := 0) dX8_perform_4 YJx29ce0_ordinal_8abf5 rfl kX8_370 (Or.inr (SFO_cm (i := 4) (by decide))) (c_ordinal (k := 4) (by decide)) (fun E w h => by cases h.1) rfl rfl (Nat.le_of_ble_eq_true rfl) (by decide) (fun v4 w4 q4 => ?_)
    obtain ⟨q5, rfl⟩ := q4
    cases q5
    refine J_siald (v := .int (nI 5)) dX8_perform_7 SFT_sm (by decide) (vp_in_nI (n := 4) (N := 9) (by decide) (by decide)) (by rw [nI_clamp (by decide)]) rfl ?_
    refine J_tableIn (tgt := 100) (off := 92) dX8_perform_8 (by decide) (by decide) (by decide) (by decide) ?_
    refine J_aload_n dX8_perform_100 rfl rfl ?_
    refine J_getfield dX8_perform_101 fX8_39 hX0 rfl ?_
    refine J_aload_n dX8_perform_104 rfl rfl ?_
    refine J_getfield dX8_perform_105 fX8_12 hX0 rfl ?_
    refine J_iload_n dX8_perform_108 rfl rfl ?_
    refine J_iload_n dX8_perform_109 rfl rfl ?_
    refine K_callVp dX8_perform_110 YX7_aim kX8_171 (RepT.rc hT) (c_X7_aim hT hL (by omega) (nI (ns.getD 0 0)) (nI (ns.getD 1 0))) rfl rfl (Nat.le_of_ble_eq_true rfl) (by decide) (fun v110 w110 q110 => ?_)
    obtain ⟨rfl, hC2, hT2, hF2⟩ := q110
    exact J_ireturn dX8_perform_113 rfl rfl (RP_i ⟨rfl, hC2, hT2, hF2⟩)
  · have e1 := hn1 (show 1 ≤ ns.length by have : ns.length = 1 := hlen; omega)
    subst e1
    refine J_getstatic (v := .ref 1) dX8_perform_0 SFZ_sm (sv_r (by omega)) gX8_365 ?_
    refine J_aload_n dX8_perform_3 rfl rfl ?_
    refine J_callU (mi := mX8_perform) (pc := 4) (kb := 0) (sb := 0) (kb' := 0) (sb' := 0) dX8_perform_4 YJx29ce0_ordinal_8abf5 rfl kX8_370 (Or.inr (SFO_cm (i := 5) (by decide))) (c_ordinal (k := 5) (by decide)) (fun E w h => by cases h.1) rfl rfl (Nat.le_of_ble_eq_true rfl) (by decide) (fun v4 w4 q4 => ?_)
    obtain ⟨q5, rfl⟩ := q4
    cases q5
    refine J_siald (v := .int (nI 6)) dX8_perform_7 SFT_sm (by decide) (vp_in_nI (n := 5) (N := 9) (by decide) (by decide)) (by rw [nI_clamp (by decide)]) rfl ?_
    refine J_tableIn (tgt := 114) (off := 106) dX8_perform_8 (by decide) (by decide) (by decide) (by decide) ?_
    refine J_aload_n dX8_perform_114 rfl rfl ?_
    refine J_getfield dX8_perform_115 fX8_12 hX0 rfl ?_
    refine J_iload_n dX8_perform_118 rfl rfl ?_
    refine K_callVp dX8_perform_119 YX4_seatCat kX8_87 (RepC.rc hL) (c_X4_seatCat hL (nI (ns.getD 0 0))) rfl rfl (Nat.le_of_ble_eq_true rfl) (by decide) (fun v119 w119 q119 => ?_)
    obtain ⟨rfl, hC2, hF2⟩ := q119
    exact J_ireturn dX8_perform_122 rfl rfl (RP_i ⟨rfl, hC2, hT.kp (fun j hj => hF2.1 _ (by omega)), F2.of hF2⟩)
  · have e1 := hn1 (show 1 ≤ ns.length by have : ns.length = 2 := hlen; omega)
    subst e1
    have e2 := hn2 (show 2 ≤ ns.length by have : ns.length = 2 := hlen; omega)
    subst e2
    refine J_getstatic (v := .ref 1) dX8_perform_0 SFZ_sm (sv_r (by omega)) gX8_365 ?_
    refine J_aload_n dX8_perform_3 rfl rfl ?_
    refine J_callU (mi := mX8_perform) (pc := 4) (kb := 0) (sb := 0) (kb' := 0) (sb' := 0) dX8_perform_4 YJx29ce0_ordinal_8abf5 rfl kX8_370 (Or.inr (SFO_cm (i := 6) (by decide))) (c_ordinal (k := 6) (by decide)) (fun E w h => by cases h.1) rfl rfl (Nat.le_of_ble_eq_true rfl) (by decide) (fun v4 w4 q4 => ?_)
    obtain ⟨q5, rfl⟩ := q4
    cases q5
    refine J_siald (v := .int (nI 7)) dX8_perform_7 SFT_sm (by decide) (vp_in_nI (n := 6) (N := 9) (by decide) (by decide)) (by rw [nI_clamp (by decide)]) rfl ?_
    refine J_tableIn (tgt := 123) (off := 115) dX8_perform_8 (by decide) (by decide) (by decide) (by decide) ?_
    refine J_aload_n dX8_perform_123 rfl rfl ?_
    refine J_getfield dX8_perform_124 fX8_12 hX0 rfl ?_
    refine J_iload_n dX8_perform_127 rfl rfl ?_
    refine J_iload_n dX8_perform_128 rfl rfl ?_
    refine K_callVp dX8_perform_129 YX4_hold kX8_178 (RepC.rc hL) (c_X4_hold hL (nI (ns.getD 0 0)) (nI (ns.getD 1 0))) rfl rfl (Nat.le_of_ble_eq_true rfl) (by decide) (fun v129 w129 q129 => ?_)
    obtain ⟨rfl, hC2, hF2⟩ := q129
    exact J_ireturn dX8_perform_132 rfl rfl (RP_i ⟨rfl, hC2, hT.kp (fun j hj => hF2.1 _ (by omega)), F2.of hF2⟩)
  · have e1 := hn1 (show 1 ≤ ns.length by have : ns.length = 1 := hlen; omega)
    subst e1
    refine J_getstatic (v := .ref 1) dX8_perform_0 SFZ_sm (sv_r (by omega)) gX8_365 ?_
    refine J_aload_n dX8_perform_3 rfl rfl ?_
    refine J_callU (mi := mX8_perform) (pc := 4) (kb := 0) (sb := 0) (kb' := 0) (sb' := 0) dX8_perform_4 YJx29ce0_ordinal_8abf5 rfl kX8_370 (Or.inr (SFO_cm (i := 7) (by decide))) (c_ordinal (k := 7) (by decide)) (fun E w h => by cases h.1) rfl rfl (Nat.le_of_ble_eq_true rfl) (by decide) (fun v4 w4 q4 => ?_)
    obtain ⟨q5, rfl⟩ := q4
    cases q5
    refine J_siald (v := .int (nI 8)) dX8_perform_7 SFT_sm (by decide) (vp_in_nI (n := 7) (N := 9) (by decide) (by decide)) (by rw [nI_clamp (by decide)]) rfl ?_
    refine J_tableIn (tgt := 133) (off := 125) dX8_perform_8 (by decide) (by decide) (by decide) (by decide) ?_
    refine J_aload_n dX8_perform_133 rfl rfl ?_
    refine J_getfield dX8_perform_134 fX8_12 hX0 rfl ?_
    refine J_iload_n dX8_perform_137 rfl rfl ?_
    refine K_callVp dX8_perform_138 YX4_rerail kX8_184 (RepC.rc hL) (c_X4_rerail hL (nI (ns.getD 0 0))) rfl rfl (Nat.le_of_ble_eq_true rfl) (by decide) (fun v138 w138 q138 => ?_)
    obtain ⟨rfl, hC2, hF2⟩ := q138
    exact J_ireturn dX8_perform_141 rfl rfl (RP_i ⟨rfl, hC2, hT.kp (fun j hj => hF2.1 _ (by omega)), F2.of hF2⟩)
  · have e1 := hn1 (show 1 ≤ ns.length by have : ns.length = 1 := hlen; omega)
    subst e1
    refine J_getstatic (v := .ref 1) dX8_perform_0 SFZ_sm (sv_r (by omega)) gX8_365 ?_
    refine J_aload_n dX8_perform_3 rfl rfl ?_
    refine J_callU (mi := mX8_perform) (pc := 4) (kb := 0) (sb := 0) (kb' := 0) (sb' := 0) dX8_perform_4 YJx29ce0_ordinal_8abf5 rfl kX8_370 (Or.inr (SFO_cm (i := 8) (by decide))) (c_ordinal (k := 8) (by decide)) (fun E w h => by cases h.1) rfl rfl (Nat.le_of_ble_eq_true rfl) (by decide) (fun v4 w4 q4 => ?_)
    obtain ⟨q5, rfl⟩ := q4
    cases q5
    refine J_siald (v := .int (nI 9)) dX8_perform_7 SFT_sm (by decide) (vp_in_nI (n := 8) (N := 9) (by decide) (by decide)) (by rw [nI_clamp (by decide)]) rfl ?_
    refine J_tableIn (tgt := 142) (off := 134) dX8_perform_8 (by decide) (by decide) (by decide) (by decide) ?_
    refine J_aload_n dX8_perform_142 rfl rfl ?_
    refine J_getfield dX8_perform_143 fX8_39 hX0 rfl ?_
    refine J_aload_n dX8_perform_146 rfl rfl ?_
    refine J_getfield dX8_perform_147 fX8_12 hX0 rfl ?_
    refine J_iload_n dX8_perform_150 rfl rfl ?_
    refine K_callVp dX8_perform_151 YX7_letPass kX8_220 (RepT.rc hT) (c_X7_letPass hT hL (by omega) (nI (ns.getD 0 0))) rfl rfl (Nat.le_of_ble_eq_true rfl) (by decide) (fun v151 w151 q151 => ?_)
    obtain ⟨rfl, hC2, hT2, hF2⟩ := q151
    exact J_ireturn dX8_perform_154 rfl rfl (RP_i ⟨rfl, hC2, hT2, hF2⟩)

end JEXEC2

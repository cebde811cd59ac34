/-! THE MODEL: its ticks -/
section JMTICK
theorem c_X9_acts {w : Wd} {m : Nat} {x : Nat → Int32} {S : St} (hA : MA w m x S) {t : Nat} (ht : t < sNt S) : MC 5 mX9_acts 0 0 [.ref m, .int (nI t)] w (RP (fun v w' => v = some (.int (b2i (arv S t))) ∧ FA w w' m ∧ MA w' m x (act S t))) := by
  obtain ⟨f, g, h, mO, mS, mF, mK, hfit⟩ := id hA
  have hwf := hfit.2.2.2.2
  have hnb := hwf.nb
  have hnt := hwf.nt
  refine MC_j pnX9 rfl rfl rfl (Or.inr (fun E w h => RP_no E w h)) ?_
  show J 5 mX9_acts 0 [some (.ref m), some (.int (nI t)), none, none] [] w 0 0 _
  have goal : ∀ b f1 g1 h1 w1 o3, b < sNb S → act S t = sMove S t b → FitM f1 (sMov0 S t b) → w1.1 m = mCell m x → w1.1 (m + 1) = .inl (0, 116, .inl f1) → w1.1 (m + 9) = .inl (0, 14, .inl g1) → w1.1 (m + 10) = .inl (0, 14, .inl h1) → FA w w1 m → J 5 mX9_acts 166 [some (.ref m), some (.int (nI t)), some (.int (nI b)), o3] [] w1 0 0 (RP (fun v w' => v = some (.int (b2i (arv S t))) ∧ FA w w' m ∧ MA w' m x (act S t))) := by
    intro b f1 g1 h1 w1 o3 hb hact hfit2 mO mS mF mK hFr
    refine J_aload_n dX9_acts_166 rfl rfl ?_
    refine J_iload_n dX9_acts_167 rfl rfl ?_
    refine K_callV dX9_acts_168 YX9_goalOf kX9_81 (rc_of mO rfl) (c_X9_goalOf mO mS hfit2 (show t < sNt S from ht)) rfl rfl (Nat.le_of_ble_eq_true rfl) (by decide) ?_
    refine J_iload_n dX9_acts_171 rfl rfl ?_
    refine J_icmp_eq (tgt := 177) dX9_acts_172 (by decide) (fun h172 => ?_) (fun h172 => ?_)
    · skip
      have e172 : sGo S t = some b := (oI_nI (sGo_b hwf ht) (by omega)).mp h172
      refine J_aload_n dX9_acts_177 rfl rfl ?_
      refine J_iload_n dX9_acts_178 rfl rfl ?_
      refine J_iconst (v := nI 3) dX9_acts_179 (by decide) ?_
      refine J_iconst (v := nI 0) dX9_acts_180 (by decide) ?_
      refine K_callVp dX9_acts_181 YX9_sets kX9_105 (rc_of mO rfl) (c_X9_sets mO mS (t := t) (k := 3) (by omega) _) rfl rfl (Nat.le_of_ble_eq_true rfl) (by decide) (fun v181 w181 q181 => ?_)
      obtain ⟨rfl, u181⟩ := q181
      have mO := (u181.2.1 _ (by omega)).trans mO
      have mS := u181.1
      have mF := (u181.2.1 _ (by omega)).trans mF
      have mK := (u181.2.1 _ (by omega)).trans mK
      have hFr := hFr.up u181 (by omega) (by omega)
      have hfit3 := fit_go hfit2 ht (g := none) rfl (fun x e => by cases e)
      refine J_aload_n dX9_acts_184 rfl rfl ?_
      refine J_getfield dX9_acts_185 fX9_7 mO rfl ?_
      refine J_iconst (v := nI 3) dX9_acts_188 (by decide) ?_
      refine J_dup2 dX9_acts_189 rfl rfl ?_
      refine K_iald (v := sAr S) dX9_acts_190 mS (by omega) (by decide) hfit3.1.2.2.2 ?_
      refine J_iconst (v := nI 1) dX9_acts_191 (by decide) ?_
      refine K_iadd (v := sAr S + 1) dX9_acts_192 rfl ?_
      refine K_iast dX9_acts_193 mS (by omega) (by decide) (fun w1 u1 => ?_)
      have mF := (u1.2.1 _ (by omega)).trans mF
      have mK := (u1.2.1 _ (by omega)).trans mK
      have mO := (u1.2.1 _ (by omega)).trans mO
      have mS := u1.1
      have hfit4 := fit_ar hfit3 (y := sAr S + 1) rfl
      have hFr := hFr.up u1 (by omega) (by omega)
      refine J_iconst (v := nI 1) dX9_acts_194 (by decide) ?_
      exact J_ireturn dX9_acts_195 rfl rfl (RP_i ⟨by rw [show arv S t = true from by unfold arv; rw [hact, mov_go e172, e172]; show (va_up (sGo (sMov0 S t b)) t none t).isNone = true; rw [up_s]; rfl]; rfl, hFr, by rw [hact, mov_go e172]; exact ⟨_, _, _, mO, mS, mF, mK, hfit4⟩⟩)
    · skip
      have e172 : ¬ sGo S t = some b := mt (oI_nI (sGo_b hwf ht) (by omega)).mpr h172
      refine J_iconst (v := nI 0) dX9_acts_175 (by decide) ?_
      exact J_ireturn dX9_acts_176 rfl rfl (RP_i ⟨by rw [arv_same (by rw [hact, mov_ng e172]; rfl)]; rfl, hFr, by rw [hact, mov_ng e172]; exact ⟨_, _, _, mO, mS, mF, mK, hfit2⟩⟩)
  have move : ∀ b f1 g1 h1 w1 o3, b < sNb S → tAt S b = none → act S t = sMove S t b → FitM f1 (sHold S t none) → w1.1 m = mCell m x → w1.1 (m + 1) = .inl (0, 116, .inl f1) → w1.1 (m + 9) = .inl (0, 14, .inl g1) → w1.1 (m + 10) = .inl (0, 14, .inl h1) → FA w w1 m → J 5 mX9_acts 117 [some (.ref m), some (.int (nI t)), some (.int (nI b)), o3] [] w1 0 0 (RP (fun v w' => v = some (.int (b2i (arv S t))) ∧ FA w w' m ∧ MA w' m x (act S t))) := by
    intro b f1 g1 h1 w1 o3 hb htf hact hfit2 mO mS mF mK hFr
    refine J_aload_n dX9_acts_117 rfl rfl ?_
    refine J_iload_n dX9_acts_118 rfl rfl ?_
    refine J_iconst (v := nI 0) dX9_acts_119 (by decide) ?_
    refine J_iload_n dX9_acts_120 rfl rfl ?_
    refine K_callVp dX9_acts_121 YX9_sets kX9_105 (rc_of mO rfl) (c_X9_sets mO mS (t := t) (k := 0) (by omega) _) rfl rfl (Nat.le_of_ble_eq_true rfl) (by decide) (fun v121 w121 q121 => ?_)
    obtain ⟨rfl, u121⟩ := q121
    have mO := (u121.2.1 _ (by omega)).trans mO
    have mS := u121.1
    have mF := (u121.2.1 _ (by omega)).trans mF
    have mK := (u121.2.1 _ (by omega)).trans mK
    have hFr := hFr.up u121 (by omega) (by omega)
    have hfit3 := fit_pl hfit2 ht (b := b) rfl (show b < sNb S from hb) htf
    refine J_aload_n dX9_acts_124 rfl rfl ?_
    refine J_iload_n dX9_acts_125 rfl rfl ?_
    refine J_iconst (v := nI 2) dX9_acts_126 (by decide) ?_
    refine J_aload_n dX9_acts_127 rfl rfl ?_
    refine J_iload_n dX9_acts_128 rfl rfl ?_
    refine J_iconst (v := nI 0) dX9_acts_129 (by decide) ?_
    refine K_callV dX9_acts_130 YX9_block kX9_71 (rc_of mO rfl) (c_X9_bLen mO mS hfit3 (show b < sNb S from hb)) rfl rfl (Nat.le_of_ble_eq_true rfl) (by decide) ?_
    refine K_callVp dX9_acts_133 YX9_sets kX9_105 (rc_of mO rfl) (c_X9_sets mO mS (t := t) (k := 2) (by omega) _) rfl rfl (Nat.le_of_ble_eq_true rfl) (by decide) (fun v133 w133 q133 => ?_)
    obtain ⟨rfl, u133⟩ := q133
    have mO := (u133.2.1 _ (by omega)).trans mO
    have mS := u133.1
    have mF := (u133.2.1 _ (by omega)).trans mF
    have mK := (u133.2.1 _ (by omega)).trans mK
    have hFr := hFr.up u133 (by omega) (by omega)
    have hfit4 := fit_re hfit3 ht (k := sLen S b) rfl (hwf.2.1 b hb).2
    refine J_aload_n dX9_acts_136 rfl rfl ?_
    refine J_iload_n dX9_acts_137 rfl rfl ?_
    refine J_iconst (v := nI 2) dX9_acts_138 (by decide) ?_
    refine K_callV dX9_acts_139 YX9_block kX9_71 (rc_of mO rfl) (c_X9_bCa mO mS hfit4 (show b < sNb S from hb)) rfl rfl (Nat.le_of_ble_eq_true rfl) (by decide) ?_
    refine J_iconst (v := nI 1) dX9_acts_142 (by decide) ?_
    refine J_icmp_ne (tgt := 166) dX9_acts_143 (by decide) (fun h143 => ?_) (fun h143 => ?_)
    · skip
      have e143 : sCa S b = false := b2i_n1 h143
      rw [mov_nc e143] at hfit4
      exact goal b _ _ _ _ _ hb hact hfit4 mO mS mF mK hFr
    · skip
      have e143 : sCa S b = true := b2i_1.mp h143
      refine J_aload_n dX9_acts_146 rfl rfl ?_
      refine J_iload_n dX9_acts_147 rfl rfl ?_
      refine J_iconst (v := nI 4) dX9_acts_148 (by decide) ?_
      refine J_iconst (v := nI 1) dX9_acts_149 (by decide) ?_
      refine K_callVp dX9_acts_150 YX9_sets kX9_105 (rc_of mO rfl) (c_X9_sets mO mS (t := t) (k := 4) (by omega) _) rfl rfl (Nat.le_of_ble_eq_true rfl) (by decide) (fun v150 w150 q150 => ?_)
      obtain ⟨rfl, u150⟩ := q150
      have mO := (u150.2.1 _ (by omega)).trans mO
      have mS := u150.1
      have mF := (u150.2.1 _ (by omega)).trans mF
      have mK := (u150.2.1 _ (by omega)).trans mK
      have hFr := hFr.up u150 (by omega) (by omega)
      have hfit5 := fit_of hfit4 ht (v := true) rfl
      refine J_aload_n dX9_acts_153 rfl rfl ?_
      refine J_getfield dX9_acts_154 fX9_7 mO rfl ?_
      refine J_iconst (v := nI 4) dX9_acts_157 (by decide) ?_
      refine J_iconst (v := nI 4) dX9_acts_158 (by decide) ?_
      refine J_iload_n dX9_acts_159 rfl rfl ?_
      refine K_imul (v := nI (4 * b)) dX9_acts_160 (nI_mul _ _) ?_
      refine K_iadd (v := nI (4 + (4 * b))) dX9_acts_161 (nI_add _ _) ?_
      refine J_iconst (v := nI 2) dX9_acts_162 (by decide) ?_
      refine K_iadd (v := nI (4 + (4 * b) + 2)) dX9_acts_163 (nI_add _ _) ?_
      refine J_iconst (v := nI 0) dX9_acts_164 (by decide) ?_
      refine K_iast dX9_acts_165 mS (by omega) (by decide) (fun w1 u1 => ?_)
      have mF := (u1.2.1 _ (by omega)).trans mF
      have mK := (u1.2.1 _ (by omega)).trans mK
      have mO := (u1.2.1 _ (by omega)).trans mO
      have mS := u1.1
      have hfit6 := fit_cat hfit5 (show b < sNb S from hb) (v := false) (y := nI 0) rfl
      have hFr := hFr.up u1 (by omega) (by omega)
      rw [mov_ca e143] at hfit6
      exact goal b _ _ _ _ _ hb hact hfit6 mO mS mF mK hFr
  have moves : ∀ b g1 h1 w1 o3, b < sNb S → tAt S b = none → act S t = sMove S t b → w1.1 m = mCell m x → w1.1 (m + 1) = .inl (0, 116, .inl f) → w1.1 (m + 9) = .inl (0, 14, .inl g1) → w1.1 (m + 10) = .inl (0, 14, .inl h1) → FA w w1 m → J 5 mX9_acts 93 [some (.ref m), some (.int (nI t)), some (.int (nI b)), o3] [] w1 0 0 (RP (fun v w' => v = some (.int (b2i (arv S t))) ∧ FA w w' m ∧ MA w' m x (act S t))) := by
    intro b g1 h1 w1 o3 hb htf hact mO mS mF mK hFr
    refine J_aload_n dX9_acts_93 rfl rfl ?_
    refine J_iload_n dX9_acts_94 rfl rfl ?_
    refine K_callV dX9_acts_95 YX9_held kX9_112 (rc_of mO rfl) (c_X9_held mO mS hfit ht) rfl rfl (Nat.le_of_ble_eq_true rfl) (by decide) ?_
    refine J_istore_n dX9_acts_98 rfl (by decide) rfl ?_
    refine J_iload_n dX9_acts_99 rfl rfl ?_
    refine J_iconst (v := (-1)) dX9_acts_100 (by decide) ?_
    refine J_icmp_eq (tgt := 117) dX9_acts_101 (by decide) (fun h101 => ?_) (fun h101 => ?_)
    · skip
      have e101 : sHo S t = none := (oI_m1 (sHo_b hwf ht)).mp h101
      exact move b _ _ _ _ _ hb htf hact (by rw [hold_id e101]; exact hfit) mO mS mF mK hFr
    · skip
      obtain ⟨q, e101⟩ : ∃ k_, sHo S t = some k_ := by
        cases q : sHo S t with
        | none => exact absurd ((oI_m1 (sHo_b hwf ht)).mpr q) h101
        | some k_ => exact ⟨k_, rfl⟩
      rw [e101, oI_s]
      have hqb := hwf.2.2.2.2.2.2.1 t ht q e101
      refine J_aload_n dX9_acts_104 rfl rfl ?_
      refine J_getfield dX9_acts_105 fX9_7 mO rfl ?_
      refine J_iconst (v := nI 4) dX9_acts_108 (by decide) ?_
      refine J_iconst (v := nI 4) dX9_acts_109 (by decide) ?_
      refine J_iload_n dX9_acts_110 rfl rfl ?_
      refine K_imul (v := nI (4 * q)) dX9_acts_111 (nI_mul _ _) ?_
      refine K_iadd (v := nI (4 + (4 * q))) dX9_acts_112 (nI_add _ _) ?_
      refine J_iconst (v := nI 3) dX9_acts_113 (by decide) ?_
      refine K_iadd (v := nI (4 + (4 * q) + 3)) dX9_acts_114 (nI_add _ _) ?_
      refine J_iconst (v := nI 0) dX9_acts_115 (by decide) ?_
      refine K_iast dX9_acts_116 mS (by omega) (by decide) (fun w1 u1 => ?_)
      have mF := (u1.2.1 _ (by omega)).trans mF
      have mK := (u1.2.1 _ (by omega)).trans mK
      have mO := (u1.2.1 _ (by omega)).trans mO
      have mS := u1.1
      have hfit2 := fit_hc hfit ht e101 (y := nI 0) rfl
      have hFr := hFr.up u1 (by omega) (by omega)
      exact move b _ _ _ _ _ hb htf hact hfit2 mO mS mF mK hFr
  have stage : ∀ b g1 h1 w1 o3, b < sNb S → sOf S t = false → ¬ 0 < sRe S t → nx S t = some b → w1.1 m = mCell m x → w1.1 (m + 1) = .inl (0, 116, .inl f) → w1.1 (m + 9) = .inl (0, 14, .inl g1) → w1.1 (m + 10) = .inl (0, 14, .inl h1) → FA w w1 m → J 5 mX9_acts 50 [some (.ref m), some (.int (nI t)), some (.int (nI b)), o3] [] w1 0 0 (RP (fun v w' => v = some (.int (b2i (arv S t))) ∧ FA w w' m ∧ MA w' m x (act S t))) := by
    intro b g1 h1 w1 o3 hb e7 h18 e45 mO mS mF mK hFr
    refine J_aload_n dX9_acts_50 rfl rfl ?_
    refine J_iload_n dX9_acts_51 rfl rfl ?_
    refine K_callV dX9_acts_52 YX9_inside kX9_99 (rc_of mO rfl) (c_X9_inside mO mS hfit (show b < 2 ^ 31 by omega)) rfl rfl (Nat.le_of_ble_eq_true rfl) (by decide) ?_
    refine J_iconst (v := (-1)) dX9_acts_55 (by decide) ?_
    refine J_icmp_ne (tgt := 77) dX9_acts_56 (by decide) (fun h56 => ?_) (fun h56 => ?_)
    · skip
      obtain ⟨k56, e56⟩ : ∃ k_, tAt S b = some k_ := by
        cases q : tAt S b with
        | none => exact absurd ((oI_m1 (tAt_b hwf)).mpr q) h56
        | some k_ => exact ⟨k_, rfl⟩
      have hno : ¬ (tAt S b = none ∧ (hOf S b = none ∨ hOf S b = some t)) := fun z => by rw [e56] at z; cases z.1
      have hact := act_wai e7 h18 e45 hno
      refine J_aload_n dX9_acts_77 rfl rfl ?_
      refine J_iload_n dX9_acts_78 rfl rfl ?_
      refine J_iconst (v := nI 5) dX9_acts_79 (by decide) ?_
      refine J_aload_n dX9_acts_80 rfl rfl ?_
      refine J_iload_n dX9_acts_81 rfl rfl ?_
      refine J_iconst (v := nI 5) dX9_acts_82 (by decide) ?_
      refine K_callV dX9_acts_83 YX9_train kX9_75 (rc_of mO rfl) (c_X9_tWa mO mS hfit ht) rfl rfl (Nat.le_of_ble_eq_true rfl) (by decide) ?_
      refine J_iconst (v := nI 1) dX9_acts_86 (by decide) ?_
      refine K_iadd (v := sWa S t + 1) dX9_acts_87 rfl ?_
      refine K_callVp dX9_acts_88 YX9_sets kX9_105 (rc_of mO rfl) (c_X9_sets mO mS (t := t) (k := 5) (by omega) _) rfl rfl (Nat.le_of_ble_eq_true rfl) (by decide) (fun v88 w88 q88 => ?_)
      obtain ⟨rfl, u88⟩ := q88
      have mO := (u88.2.1 _ (by omega)).trans mO
      have mS := u88.1
      have mF := (u88.2.1 _ (by omega)).trans mF
      have mK := (u88.2.1 _ (by omega)).trans mK
      have hFr := hFr.up u88 (by omega) (by omega)
      have hfit2 := fit_wa hfit ht rfl
      refine J_iconst (v := nI 0) dX9_acts_91 (by decide) ?_
      exact J_ireturn dX9_acts_92 rfl rfl (RP_i ⟨by rw [arv_same (by rw [hact]; rfl)]; rfl, hFr, by rw [hact]; exact ⟨_, _, _, mO, mS, mF, mK, hfit2⟩⟩)
    · skip
      have e56 : tAt S b = none := (oI_m1 (tAt_b hwf)).mp h56
      refine J_aload_n dX9_acts_59 rfl rfl ?_
      refine J_iload_n dX9_acts_60 rfl rfl ?_
      refine K_callV dX9_acts_61 YX9_holder kX9_78 (rc_of mO rfl) (c_X9_holder mO mS hfit (show b < sNb S by omega)) rfl rfl (Nat.le_of_ble_eq_true rfl) (by decide) ?_
      refine J_iconst (v := (-1)) dX9_acts_64 (by decide) ?_
      refine J_icmp_eq (tgt := 93) dX9_acts_65 (by decide) (fun h65 => ?_) (fun h65 => ?_)
      · skip
        have e65 : hOf S b = none := (oI_m1 (hOf_b hwf)).mp h65
        exact moves b _ _ _ _ hb e56 (act_mov e7 h18 e45 ⟨e56, Or.inl e65⟩) mO mS mF mK hFr
      · skip
        obtain ⟨k65, e65⟩ : ∃ k_, hOf S b = some k_ := by
          cases q : hOf S b with
          | none => exact absurd ((oI_m1 (hOf_b hwf)).mpr q) h65
          | some k_ => exact ⟨k_, rfl⟩
        refine J_aload_n dX9_acts_68 rfl rfl ?_
        refine J_iload_n dX9_acts_69 rfl rfl ?_
        refine K_callV dX9_acts_70 YX9_holder kX9_78 (rc_of mO rfl) (c_X9_holder mO mS hfit (show b < sNb S by omega)) rfl rfl (Nat.le_of_ble_eq_true rfl) (by decide) ?_
        refine J_iload_n dX9_acts_73 rfl rfl ?_
        refine J_icmp_eq (tgt := 93) dX9_acts_74 (by decide) (fun h74 => ?_) (fun h74 => ?_)
        · skip
          have e74 : hOf S b = some t := (oI_nI (hOf_b hwf) (by omega)).mp h74
          exact moves b _ _ _ _ hb e56 (act_mov e7 h18 e45 ⟨e56, Or.inr e74⟩) mO mS mF mK hFr
        · skip
          have e74 : ¬ hOf S b = some t := mt (oI_nI (hOf_b hwf) (by omega)).mpr h74
          have hno : ¬ (tAt S b = none ∧ (hOf S b = none ∨ hOf S b = some t)) := fun z => z.2.elim (fun y => by rw [e65] at y; cases y) (fun y => e74 y)
          have hact := act_wai e7 h18 e45 hno
          refine J_aload_n dX9_acts_77 rfl rfl ?_
          refine J_iload_n dX9_acts_78 rfl rfl ?_
          refine J_iconst (v := nI 5) dX9_acts_79 (by decide) ?_
          refine J_aload_n dX9_acts_80 rfl rfl ?_
          refine J_iload_n dX9_acts_81 rfl rfl ?_
          refine J_iconst (v := nI 5) dX9_acts_82 (by decide) ?_
          refine K_callV dX9_acts_83 YX9_train kX9_75 (rc_of mO rfl) (c_X9_tWa mO mS hfit ht) rfl rfl (Nat.le_of_ble_eq_true rfl) (by decide) ?_
          refine J_iconst (v := nI 1) dX9_acts_86 (by decide) ?_
          refine K_iadd (v := sWa S t + 1) dX9_acts_87 rfl ?_
          refine K_callVp dX9_acts_88 YX9_sets kX9_105 (rc_of mO rfl) (c_X9_sets mO mS (t := t) (k := 5) (by omega) _) rfl rfl (Nat.le_of_ble_eq_true rfl) (by decide) (fun v88 w88 q88 => ?_)
          obtain ⟨rfl, u88⟩ := q88
          have mO := (u88.2.1 _ (by omega)).trans mO
          have mS := u88.1
          have mF := (u88.2.1 _ (by omega)).trans mF
          have mK := (u88.2.1 _ (by omega)).trans mK
          have hFr := hFr.up u88 (by omega) (by omega)
          have hfit2 := fit_wa hfit ht rfl
          refine J_iconst (v := nI 0) dX9_acts_91 (by decide) ?_
          exact J_ireturn dX9_acts_92 rfl rfl (RP_i ⟨by rw [arv_same (by rw [hact]; rfl)]; rfl, hFr, by rw [hact]; exact ⟨_, _, _, mO, mS, mF, mK, hfit2⟩⟩)
  refine J_aload_n dX9_acts_0 rfl rfl ?_
  refine J_iload_n dX9_acts_1 rfl rfl ?_
  refine J_iconst (v := nI 4) dX9_acts_2 (by decide) ?_
  refine K_callV dX9_acts_3 YX9_train kX9_75 (rc_of mO rfl) (c_X9_tOf mO mS hfit (show t < sNt S by omega)) rfl rfl (Nat.le_of_ble_eq_true rfl) (by decide) ?_
  refine J_iconst (v := nI 1) dX9_acts_6 (by decide) ?_
  refine J_icmp_ne (tgt := 12) dX9_acts_7 (by decide) (fun h7 => ?_) (fun h7 => ?_)
  · skip
    have e7 : sOf S t = false := b2i_n1 h7
    refine J_aload_n dX9_acts_12 rfl rfl ?_
    refine J_iload_n dX9_acts_13 rfl rfl ?_
    refine J_iconst (v := nI 2) dX9_acts_14 (by decide) ?_
    have hpt := hwf.2.2.2.2.1 t ht
    refine K_callV dX9_acts_15 YX9_train kX9_75 (rc_of mO rfl) (c_X9_tRe mO mS hfit ht) rfl rfl (Nat.le_of_ble_eq_true rfl) (by decide) ?_
    refine J_if_le (tgt := 37) dX9_acts_18 (by decide) (fun h18 => ?_) (fun h18 => ?_)
    · skip
      have h18 := (nI_leI (b := 0) (by omega) (by omega)).mp h18
      have h18 : ¬ 0 < sRe S t := by omega
      refine J_aload_n dX9_acts_37 rfl rfl ?_
      refine J_iload_n dX9_acts_38 rfl rfl ?_
      refine K_callVp dX9_acts_39 YX9_next kX9_115 (rc_of mO rfl) (c_X9_next hA ht) rfl rfl (Nat.le_of_ble_eq_true rfl) (by decide) (fun v39 w39 q39 => ?_)
      obtain ⟨rfl, hF39, hA39⟩ := q39
      refine J_istore_n dX9_acts_42 rfl (by decide) rfl ?_
      refine J_iload_n dX9_acts_43 rfl rfl ?_
      refine J_iconst (v := (-1)) dX9_acts_44 (by decide) ?_
      refine J_icmp_ne (tgt := 50) dX9_acts_45 (by decide) (fun h45 => ?_) (fun h45 => ?_)
      · skip
        obtain ⟨b, e45⟩ : ∃ k_, nx S t = some k_ := by
          cases q : nx S t with
          | none => exact absurd ((oI_m1 (nx_b hwf)).mpr q) h45
          | some k_ => exact ⟨k_, rfl⟩
        rw [e45, oI_s]
        obtain ⟨f9, g9, h9, a0, a1, a2, a3, a4⟩ := hA39
        exact stage b g9 h _ _ (nx_lt e45).1 e7 h18 e45 ((hF39.1 _ (by omega)).trans mO) ((hF39.1 _ (by omega)).trans mS) a2 ((hF39.1 _ (by omega)).trans mK) ((FA.rf w m).tr hF39 (by omega) (by omega))
      · skip
        have e45 : nx S t = none := (oI_m1 (nx_b hwf)).mp h45
        refine J_iconst (v := nI 0) dX9_acts_48 (by decide) ?_
        exact J_ireturn dX9_acts_49 rfl rfl (RP_i ⟨by rw [arv_same (by rw [act_non e7 h18 e45])]; rfl, (FA.rf w m).tr hF39 (by omega) (by omega), by rw [act_non e7 h18 e45]; exact hA39⟩)
    · skip
      have h18 := mt (nI_leI (b := 0) (by omega) (by omega)).mpr h18
      have h18 : 0 < sRe S t := by omega
      refine J_aload_n dX9_acts_21 rfl rfl ?_
      refine J_iload_n dX9_acts_22 rfl rfl ?_
      refine J_iconst (v := nI 2) dX9_acts_23 (by decide) ?_
      refine J_aload_n dX9_acts_24 rfl rfl ?_
      refine J_iload_n dX9_acts_25 rfl rfl ?_
      refine J_iconst (v := nI 2) dX9_acts_26 (by decide) ?_
      refine K_callV dX9_acts_27 YX9_train kX9_75 (rc_of mO rfl) (c_X9_tRe mO mS hfit (show t < sNt S by omega)) rfl rfl (Nat.le_of_ble_eq_true rfl) (by decide) ?_
      refine J_iconst (v := nI 1) dX9_acts_30 (by decide) ?_
      refine K_isub (v := nI (sRe S t - 1)) dX9_acts_31 (nI_sub (by omega)) ?_
      refine K_callVp dX9_acts_32 YX9_sets kX9_105 (rc_of mO rfl) (c_X9_sets mO mS (t := t) (k := 2) (by omega) _) rfl rfl (Nat.le_of_ble_eq_true rfl) (by decide) (fun v32 w32 q32 => ?_)
      obtain ⟨rfl, u32⟩ := q32
      have hfit2 := fit_re hfit ht (k := sRe S t - 1) rfl (by omega)
      refine J_iconst (v := nI 0) dX9_acts_35 (by decide) ?_
      exact J_ireturn dX9_acts_36 rfl rfl (RP_i ⟨by rw [arv_same (by rw [act_rem e7 h18]; rfl)]; rfl, (FA.rf w m).up u32 (by omega) (by omega), by rw [act_rem e7 h18]; exact MA_up1 hA u32 hfit2⟩)
  · skip
    have e7 : sOf S t = true := b2i_1.mp h7
    refine J_iconst (v := nI 0) dX9_acts_10 (by decide) ?_
    exact J_ireturn dX9_acts_11 rfl rfl (RP_i ⟨by rw [arv_same (by rw [act_off e7])]; rfl, FA.rf _ _, by rw [act_off e7]; exact hA⟩)

end JMTICK

/-! THE MODEL: commands read -/
section JMCOM
theorem c_X9_readsOne {w : Wd} {m : Nat} {x f6 f7 : Nat → Int32} {t : Nat → Nat} {n p c : Nat} (hW : PWm w m x f6 f7) (hT : TXT f6 t n) (hx : PX x p n c false) (hp : p ≤ n) (hc : c < 59) : MC 14 mX9_readsOne 0 0 [.ref m] w (RP (fun v w' => v = none ∧ F7 w w' m ∧ ∃ x' f7', PWm w' m x' f6 f7' ∧ PX x' (pOne t n p).2 n (c + 1) (pOne t n p).1.isNone ∧ PK x x' ∧ TK f7 f7' c ∧ ∀ cm, (pOne t n p).1 = some cm → CT f7' c cm)) := by
  obtain ⟨mO, m6, m7⟩ := id hW
  obtain ⟨h18, h19, h20, h21⟩ := id hx
  have hn60 := hT.1
  refine MC_j pnX9 rfl rfl rfl (Or.inr (fun E w h => RP_no E w h)) ?_
  show J 14 mX9_readsOne 0 [some (.ref m)] [] w 0 0 _
  have fin : ∀ xk f7k w1, PWm w1 m xk f6 f7k → PX xk (pOne t n p).2 n c (pOne t n p).1.isNone → PK x xk → TK f7 f7k c → (∀ cm, (pOne t n p).1 = some cm → CT f7k c cm) → F7 w w1 m → J 14 mX9_readsOne 247 [some (.ref m)] [] w1 0 0 (RP (fun v w' => v = none ∧ F7 w w' m ∧ ∃ x' f7', PWm w' m x' f6 f7' ∧ PX x' (pOne t n p).2 n (c + 1) (pOne t n p).1.isNone ∧ PK x x' ∧ TK f7 f7' c ∧ ∀ cm, (pOne t n p).1 = some cm → CT f7' c cm)) := by
    intro xk f7k w1 hW hx hK hTK hCT hFr
    obtain ⟨mO, m6, m7⟩ := id hW
    obtain ⟨h18, h19, h20, h21⟩ := id hx
    refine J_aload_n dX9_readsOne_247 rfl rfl ?_
    refine J_dup dX9_readsOne_248 rfl ?_
    refine J_getfield dX9_readsOne_249 fX9_224 mO rfl ?_
    rw [h20]
    refine J_iconst (v := nI 1) dX9_readsOne_252 (by decide) ?_
    refine K_iadd (v := nI (c + 1)) dX9_readsOne_253 (nI_add _ _) ?_
    refine K_putI dX9_readsOne_254 fX9_224 (Or.inl rfl) mO (Nat.le_of_ble_eq_true rfl) (fun w1 u1 => ?_)
    have m6 := (u1.2.1 _ (by omega)).trans m6
    have m7 := (u1.2.1 _ (by omega)).trans m7
    have mO := u1.1
    have mO : w1.1 m = .inr (9, [.int (xk 0), .ref (m + 1), .ref (m + 2), .ref (m + 3), .ref (m + 4), .ref (m + 5), .int (xk 6), .int (xk 7), .ref (m + 6), .ref (m + 7), .ref (m + 8), .ref (m + 9), .ref (m + 10), .int (xk 13), .int (xk 14), .int (xk 15), .int (xk 16), .int (xk 17), .int (xk 18), .int (xk 19), .int (nI (c + 1)), .int (xk 21)]) := mO
    exact J_return dX9_readsOne_257 rfl (RP_i ⟨rfl, hFr.up u1 (by omega) (by omega), va_up xk 20 (nI (c + 1)), f7k, ⟨mO, m6, m7⟩, ⟨(up_n _ _ (by decide)).trans h18, (up_n _ _ (by decide)).trans h19, up_s _ _ _, (up_n _ _ (by decide)).trans h21⟩, fun j h1 h2 h3 => (up_n _ _ h2).trans (hK j h1 h2 h3), hTK, hCT⟩)
  refine J_aload_n dX9_readsOne_0 rfl rfl ?_
  refine J_iconst (v := nI 0) dX9_readsOne_1 (by decide) ?_
  refine K_callV dX9_readsOne_2 YX9_here kX9_217 (rc_of mO rfl) (c_X9_here hW hT hx hp (d := 0) (by omega)) rfl rfl (Nat.le_of_ble_eq_true rfl) (by decide) ?_
  rw [show hvv t n (p + 0) = hvv t n p from rfl]
  have none_ : wh t n p = none → J 14 mX9_readsOne 242 [some (.ref m)] [] w 0 0 (RP (fun v w' => v = none ∧ F7 w w' m ∧ ∃ x' f7', PWm w' m x' f6 f7' ∧ PX x' (pOne t n p).2 n (c + 1) (pOne t n p).1.isNone ∧ PK x x' ∧ TK f7 f7' c ∧ ∀ cm, (pOne t n p).1 = some cm → CT f7' c cm)) := by
    intro hw
    have hpo : pOne t n p = (none, p) := by unfold pOne; rw [hw]
    refine J_aload_n dX9_readsOne_242 rfl rfl ?_
    refine J_iconst (v := nI 1) dX9_readsOne_243 (by decide) ?_
    refine K_putZ dX9_readsOne_244 fX9_213 (Or.inl rfl) mO (Nat.le_of_ble_eq_true rfl) (by decide) (fun w1 u1 => ?_)
    have m6 := (u1.2.1 _ (by omega)).trans m6
    have m7 := (u1.2.1 _ (by omega)).trans m7
    have mO := u1.1
    have mO : w1.1 m = .inr (9, [.int (x 0), .ref (m + 1), .ref (m + 2), .ref (m + 3), .ref (m + 4), .ref (m + 5), .int (x 6), .int (x 7), .ref (m + 6), .ref (m + 7), .ref (m + 8), .ref (m + 9), .ref (m + 10), .int (x 13), .int (x 14), .int (x 15), .int (x 16), .int (x 17), .int (x 18), .int (x 19), .int (x 20), .int (nI 1)]) := mO
    exact fin (va_up x 21 (nI 1)) f7 _ ⟨mO, m6, m7⟩ (by rw [hpo]; exact ⟨(up_n _ _ (by decide)).trans h18, (up_n _ _ (by decide)).trans h19, (up_n _ _ (by decide)).trans h20, up_s _ _ _⟩) (fun j h1 h2 h3 => up_n _ _ h3) (fun _ _ => rfl) (fun cm h => by rw [hpo] at h; cases h) ((F7.rf w m).up u1 (by omega) (by omega))
  by_cases hpn : p < n
  · by_cases hc98 : t p = 98
    · skip
      have hv : hvv t n p = nI 98 := by unfold hvv; rw [if_pos hpn, hc98]
      rw [hv]
      refine J_tableIn (tgt := 96) (off := 91) dX9_readsOne_5 (by decide) (by decide) (by decide) (by decide) ?_
      have hw : wh t n p = some 0 := by unfold wh; simp [hpn, hc98]
      refine J_aload_n dX9_readsOne_96 rfl rfl ?_
      refine J_bipush (v := nI 98) dX9_readsOne_97 (by decide) ?_
      refine J_ldcS dX9_readsOne_99 (List.mem_of_getElem? (i := 0) rfl) (by omega) ?_
      refine J_iconst (v := nI 1) dX9_readsOne_101 (by decide) ?_
      refine K_callVp dX9_readsOne_102 YX9_one kX9_235 (rc_of mO rfl) (c_X9_one (i := 9) (ch := 49) hW hT hx hp hc (by decide) (by decide) (by decide)) rfl rfl (Nat.le_of_ble_eq_true rfl) (by decide) (fun v102 w102 q102 => ?_)
      obtain ⟨rfl, hF, xq, f7q, hWq, hxq, hKq, hTKq, hsq, hnq, -, -⟩ := q102
      refine J_goto (tgt := 247) dX9_readsOne_105 (by decide) ?_
      have hpo : pOne t n p = if (mtc t n (WN 9 ++ [49]) p []).1 = true then (some (0, (mtc t n (WN 9 ++ [49]) p []).2.2), (mtc t n (WN 9 ++ [49]) p []).2.1) else (none, (mtc t n (WN 9 ++ [49]) p []).2.1) := by
        unfold pOne
        rw [hw]
        rfl
      refine fin xq f7q _ hWq ?_ hKq hTKq (fun cm hcm => ?_) hF
      · rw [hpo]
        cases hr : (mtc t n (WN 9 ++ [49]) p []).1 with
        | true => rw [hr] at hxq; exact hxq
        | false => rw [hr] at hxq; exact hxq
      · rw [hpo] at hcm
        cases hr : (mtc t n (WN 9 ++ [49]) p []).1 with
        | true =>
          rw [if_pos hr] at hcm
          cases hcm
          exact ⟨hsq, hnq hr, fun z => by rcases z with z | z | z | z <;> cases z⟩
        | false =>
          rw [if_neg (by rw [hr]; decide)] at hcm
          cases hcm
    by_cases hc99 : t p = 99
    · skip
      have hv : hvv t n p = nI 99 := by unfold hvv; rw [if_pos hpn, hc99]
      rw [hv]
      refine J_tableIn (tgt := 108) (off := 103) dX9_readsOne_5 (by decide) (by decide) (by decide) (by decide) ?_
      refine J_aload_n dX9_readsOne_108 rfl rfl ?_
      refine J_iconst (v := nI 1) dX9_readsOne_109 (by decide) ?_
      refine K_callV dX9_readsOne_110 YX9_here kX9_217 (rc_of mO rfl) (c_X9_here hW hT hx hp (d := 1) (by omega)) rfl rfl (Nat.le_of_ble_eq_true rfl) (by decide) ?_
      refine J_bipush (v := nI 97) dX9_readsOne_113 (by decide) ?_
      refine J_icmp_ne (tgt := 130) dX9_readsOne_115 (by decide) (fun h115 => ?_) (fun h115 => ?_)
      · skip
        have h2 := mt (hvv_eq hT (i := p + 1) (c := 97) (by omega)).mpr h115
        have hw : wh t n p = some 1 := by
          unfold wh
          rw [if_neg (by omega), if_neg (by omega)]
          rw [if_pos hc99, if_neg h2]
        refine J_aload_n dX9_readsOne_130 rfl rfl ?_
        refine J_bipush (v := nI 99) dX9_readsOne_131 (by decide) ?_
        refine J_ldcS dX9_readsOne_133 (List.mem_of_getElem? (i := 2) rfl) (by omega) ?_
        refine J_iconst (v := nI 1) dX9_readsOne_135 (by decide) ?_
        refine K_callVp dX9_readsOne_136 YX9_one kX9_235 (rc_of mO rfl) (c_X9_one (i := 11) (ch := 49) hW hT hx hp hc (by decide) (by decide) (by decide)) rfl rfl (Nat.le_of_ble_eq_true rfl) (by decide) (fun v136 w136 q136 => ?_)
        obtain ⟨rfl, hF, xq, f7q, hWq, hxq, hKq, hTKq, hsq, hnq, -, -⟩ := q136
        refine J_goto (tgt := 247) dX9_readsOne_139 (by decide) ?_
        have hpo : pOne t n p = if (mtc t n (WN 11 ++ [49]) p []).1 = true then (some (1, (mtc t n (WN 11 ++ [49]) p []).2.2), (mtc t n (WN 11 ++ [49]) p []).2.1) else (none, (mtc t n (WN 11 ++ [49]) p []).2.1) := by
          unfold pOne
          rw [hw]
          rfl
        refine fin xq f7q _ hWq ?_ hKq hTKq (fun cm hcm => ?_) hF
        · rw [hpo]
          cases hr : (mtc t n (WN 11 ++ [49]) p []).1 with
          | true => rw [hr] at hxq; exact hxq
          | false => rw [hr] at hxq; exact hxq
        · rw [hpo] at hcm
          cases hr : (mtc t n (WN 11 ++ [49]) p []).1 with
          | true =>
            rw [if_pos hr] at hcm
            cases hcm
            exact ⟨hsq, hnq hr, fun z => by rcases z with z | z | z | z <;> cases z⟩
          | false =>
            rw [if_neg (by rw [hr]; decide)] at hcm
            cases hcm
      · skip
        have h2 := (hvv_eq hT (i := p + 1) (c := 97) (by omega)).mp h115
        have hw : wh t n p = some 5 := by unfold wh; simp [hpn, hc99, h2.1, h2.2]
        refine J_aload_n dX9_readsOne_118 rfl rfl ?_
        refine J_bipush (v := nI 107) dX9_readsOne_119 (by decide) ?_
        refine J_ldcS dX9_readsOne_121 (List.mem_of_getElem? (i := 1) rfl) (by omega) ?_
        refine J_iconst (v := nI 2) dX9_readsOne_123 (by decide) ?_
        refine K_callVp dX9_readsOne_124 YX9_one kX9_235 (rc_of mO rfl) (c_X9_one (i := 10) (ch := 50) hW hT hx hp hc (by decide) (by decide) (by decide)) rfl rfl (Nat.le_of_ble_eq_true rfl) (by decide) (fun v124 w124 q124 => ?_)
        obtain ⟨rfl, hF, xq, f7q, hWq, hxq, hKq, hTKq, hsq, hnq, -, -⟩ := q124
        refine J_goto (tgt := 247) dX9_readsOne_127 (by decide) ?_
        have hpo : pOne t n p = if (mtc t n (WN 10 ++ [50]) p []).1 = true then (some (5, (mtc t n (WN 10 ++ [50]) p []).2.2), (mtc t n (WN 10 ++ [50]) p []).2.1) else (none, (mtc t n (WN 10 ++ [50]) p []).2.1) := by
          unfold pOne
          rw [hw]
          rfl
        refine fin xq f7q _ hWq ?_ hKq hTKq (fun cm hcm => ?_) hF
        · rw [hpo]
          cases hr : (mtc t n (WN 10 ++ [50]) p []).1 with
          | true => rw [hr] at hxq; exact hxq
          | false => rw [hr] at hxq; exact hxq
        · rw [hpo] at hcm
          cases hr : (mtc t n (WN 10 ++ [50]) p []).1 with
          | true =>
            rw [if_pos hr] at hcm
            cases hcm
            exact ⟨hsq, hnq hr, fun z => by rcases z with z | z | z | z <;> cases z⟩
          | false =>
            rw [if_neg (by rw [hr]; decide)] at hcm
            cases hcm
    by_cases hc108 : t p = 108
    · skip
      have hv : hvv t n p = nI 108 := by unfold hvv; rw [if_pos hpn, hc108]
      rw [hv]
      refine J_tableIn (tgt := 142) (off := 137) dX9_readsOne_5 (by decide) (by decide) (by decide) (by decide) ?_
      have hw : wh t n p = some 2 := by unfold wh; simp [hpn, hc108]
      refine J_aload_n dX9_readsOne_142 rfl rfl ?_
      refine J_bipush (v := nI 108) dX9_readsOne_143 (by decide) ?_
      refine J_ldcS dX9_readsOne_145 (List.mem_of_getElem? (i := 3) rfl) (by omega) ?_
      refine J_iconst (v := nI 2) dX9_readsOne_147 (by decide) ?_
      refine J_ldcS dX9_readsOne_148 (List.mem_of_getElem? (i := 4) rfl) (by omega) ?_
      refine J_iconst (v := nI 2) dX9_readsOne_150 (by decide) ?_
      refine K_callVp dX9_readsOne_151 YX9_two kX9_249 (rc_of mO rfl) (c_X9_two (i := 12) (ch := 50) (i2 := 13) (ch2 := 50) hW hT hx hp hc (by decide) (by decide) (by decide) (by decide) (by decide) (by decide)) rfl rfl (Nat.le_of_ble_eq_true rfl) (by decide) (fun v151 w151 q151 => ?_)
      obtain ⟨rfl, hF, xq, f7q, hWq, hxq, hKq, hTKq, hsq, hnq⟩ := q151
      refine J_goto (tgt := 247) dX9_readsOne_154 (by decide) ?_
      have hpo : pOne t n p = if (mtc t n ((WN 12 ++ [50]) ++ (WN 13 ++ [50])) p []).1 = true then (some (2, (mtc t n ((WN 12 ++ [50]) ++ (WN 13 ++ [50])) p []).2.2), (mtc t n ((WN 12 ++ [50]) ++ (WN 13 ++ [50])) p []).2.1) else (none, (mtc t n ((WN 12 ++ [50]) ++ (WN 13 ++ [50])) p []).2.1) := by
        unfold pOne
        rw [hw]
        rfl
      refine fin xq f7q _ hWq ?_ hKq hTKq (fun cm hcm => ?_) hF
      · rw [hpo]
        cases hr : (mtc t n ((WN 12 ++ [50]) ++ (WN 13 ++ [50])) p []).1 with
        | true => rw [hr] at hxq; exact hxq
        | false => rw [hr] at hxq; exact hxq
      · rw [hpo] at hcm
        cases hr : (mtc t n ((WN 12 ++ [50]) ++ (WN 13 ++ [50])) p []).1 with
        | true =>
          rw [if_pos hr] at hcm
          cases hcm
          exact ⟨hsq, (hnq hr).1, fun _ => (hnq hr).2⟩
        | false =>
          rw [if_neg (by rw [hr]; decide)] at hcm
          cases hcm
    by_cases hc116 : t p = 116
    · skip
      have hv : hvv t n p = nI 116 := by unfold hvv; rw [if_pos hpn, hc116]
      rw [hv]
      refine J_tableIn (tgt := 157) (off := 152) dX9_readsOne_5 (by decide) (by decide) (by decide) (by decide) ?_
      refine J_aload_n dX9_readsOne_157 rfl rfl ?_
      refine J_iconst (v := nI 1) dX9_readsOne_158 (by decide) ?_
      refine K_callV dX9_readsOne_159 YX9_here kX9_217 (rc_of mO rfl) (c_X9_here hW hT hx hp (d := 1) (by omega)) rfl rfl (Nat.le_of_ble_eq_true rfl) (by decide) ?_
      refine J_bipush (v := nI 105) dX9_readsOne_162 (by decide) ?_
      refine J_icmp_ne (tgt := 179) dX9_readsOne_164 (by decide) (fun h164 => ?_) (fun h164 => ?_)
      · skip
        have h2 := mt (hvv_eq hT (i := p + 1) (c := 105) (by omega)).mpr h164
        have hw : wh t n p = some 3 := by
          unfold wh
          rw [if_neg (by omega), if_neg (by omega)]
          rw [if_neg (by omega), if_neg (by omega), if_pos hc116, if_neg h2]
        refine J_aload_n dX9_readsOne_179 rfl rfl ?_
        refine J_bipush (v := nI 116) dX9_readsOne_180 (by decide) ?_
        refine J_ldcS dX9_readsOne_182 (List.mem_of_getElem? (i := 6) rfl) (by omega) ?_
        refine J_iconst (v := nI 2) dX9_readsOne_184 (by decide) ?_
        refine J_ldcwS dX9_readsOne_185 (List.mem_of_getElem? (i := 7) rfl) (by omega) ?_
        refine J_iconst (v := nI 1) dX9_readsOne_188 (by decide) ?_
        refine K_callVp dX9_readsOne_189 YX9_two kX9_249 (rc_of mO rfl) (c_X9_two (i := 15) (ch := 50) (i2 := 16) (ch2 := 49) hW hT hx hp hc (by decide) (by decide) (by decide) (by decide) (by decide) (by decide)) rfl rfl (Nat.le_of_ble_eq_true rfl) (by decide) (fun v189 w189 q189 => ?_)
        obtain ⟨rfl, hF, xq, f7q, hWq, hxq, hKq, hTKq, hsq, hnq⟩ := q189
        refine J_goto (tgt := 247) dX9_readsOne_192 (by decide) ?_
        have hpo : pOne t n p = if (mtc t n ((WN 15 ++ [50]) ++ (WN 16 ++ [49])) p []).1 = true then (some (3, (mtc t n ((WN 15 ++ [50]) ++ (WN 16 ++ [49])) p []).2.2), (mtc t n ((WN 15 ++ [50]) ++ (WN 16 ++ [49])) p []).2.1) else (none, (mtc t n ((WN 15 ++ [50]) ++ (WN 16 ++ [49])) p []).2.1) := by
          unfold pOne
          rw [hw]
          rfl
        refine fin xq f7q _ hWq ?_ hKq hTKq (fun cm hcm => ?_) hF
        · rw [hpo]
          cases hr : (mtc t n ((WN 15 ++ [50]) ++ (WN 16 ++ [49])) p []).1 with
          | true => rw [hr] at hxq; exact hxq
          | false => rw [hr] at hxq; exact hxq
        · rw [hpo] at hcm
          cases hr : (mtc t n ((WN 15 ++ [50]) ++ (WN 16 ++ [49])) p []).1 with
          | true =>
            rw [if_pos hr] at hcm
            cases hcm
            exact ⟨hsq, (hnq hr).1, fun _ => (hnq hr).2⟩
          | false =>
            rw [if_neg (by rw [hr]; decide)] at hcm
            cases hcm
      · skip
        have h2 := (hvv_eq hT (i := p + 1) (c := 105) (by omega)).mp h164
        have hw : wh t n p = some 8 := by unfold wh; simp [hpn, hc116, h2.1, h2.2]
        refine J_aload_n dX9_readsOne_167 rfl rfl ?_
        refine J_bipush (v := nI 105) dX9_readsOne_168 (by decide) ?_
        refine J_ldcS dX9_readsOne_170 (List.mem_of_getElem? (i := 5) rfl) (by omega) ?_
        refine J_iconst (v := nI 2) dX9_readsOne_172 (by decide) ?_
        refine K_callVp dX9_readsOne_173 YX9_one kX9_235 (rc_of mO rfl) (c_X9_one (i := 14) (ch := 50) hW hT hx hp hc (by decide) (by decide) (by decide)) rfl rfl (Nat.le_of_ble_eq_true rfl) (by decide) (fun v173 w173 q173 => ?_)
        obtain ⟨rfl, hF, xq, f7q, hWq, hxq, hKq, hTKq, hsq, hnq, -, -⟩ := q173
        refine J_goto (tgt := 247) dX9_readsOne_176 (by decide) ?_
        have hpo : pOne t n p = if (mtc t n (WN 14 ++ [50]) p []).1 = true then (some (8, (mtc t n (WN 14 ++ [50]) p []).2.2), (mtc t n (WN 14 ++ [50]) p []).2.1) else (none, (mtc t n (WN 14 ++ [50]) p []).2.1) := by
          unfold pOne
          rw [hw]
          rfl
        refine fin xq f7q _ hWq ?_ hKq hTKq (fun cm hcm => ?_) hF
        · rw [hpo]
          cases hr : (mtc t n (WN 14 ++ [50]) p []).1 with
          | true => rw [hr] at hxq; exact hxq
          | false => rw [hr] at hxq; exact hxq
        · rw [hpo] at hcm
          cases hr : (mtc t n (WN 14 ++ [50]) p []).1 with
          | true =>
            rw [if_pos hr] at hcm
            cases hcm
            exact ⟨hsq, hnq hr, fun z => by rcases z with z | z | z | z <;> cases z⟩
          | false =>
            rw [if_neg (by rw [hr]; decide)] at hcm
            cases hcm
    by_cases hc103 : t p = 103
    · skip
      have hv : hvv t n p = nI 103 := by unfold hvv; rw [if_pos hpn, hc103]
      rw [hv]
      refine J_tableIn (tgt := 195) (off := 190) dX9_readsOne_5 (by decide) (by decide) (by decide) (by decide) ?_
      have hw : wh t n p = some 4 := by unfold wh; simp [hpn, hc103]
      refine J_aload_n dX9_readsOne_195 rfl rfl ?_
      refine J_bipush (v := nI 103) dX9_readsOne_196 (by decide) ?_
      refine J_ldcwS dX9_readsOne_198 (List.mem_of_getElem? (i := 8) rfl) (by omega) ?_
      refine J_iconst (v := nI 1) dX9_readsOne_201 (by decide) ?_
      refine J_ldcwS dX9_readsOne_202 (List.mem_of_getElem? (i := 9) rfl) (by omega) ?_
      refine J_iconst (v := nI 2) dX9_readsOne_205 (by decide) ?_
      refine K_callVp dX9_readsOne_206 YX9_two kX9_249 (rc_of mO rfl) (c_X9_two (i := 17) (ch := 49) (i2 := 18) (ch2 := 50) hW hT hx hp hc (by decide) (by decide) (by decide) (by decide) (by decide) (by decide)) rfl rfl (Nat.le_of_ble_eq_true rfl) (by decide) (fun v206 w206 q206 => ?_)
      obtain ⟨rfl, hF, xq, f7q, hWq, hxq, hKq, hTKq, hsq, hnq⟩ := q206
      refine J_goto (tgt := 247) dX9_readsOne_209 (by decide) ?_
      have hpo : pOne t n p = if (mtc t n ((WN 17 ++ [49]) ++ (WN 18 ++ [50])) p []).1 = true then (some (4, (mtc t n ((WN 17 ++ [49]) ++ (WN 18 ++ [50])) p []).2.2), (mtc t n ((WN 17 ++ [49]) ++ (WN 18 ++ [50])) p []).2.1) else (none, (mtc t n ((WN 17 ++ [49]) ++ (WN 18 ++ [50])) p []).2.1) := by
        unfold pOne
        rw [hw]
        rfl
      refine fin xq f7q _ hWq ?_ hKq hTKq (fun cm hcm => ?_) hF
      · rw [hpo]
        cases hr : (mtc t n ((WN 17 ++ [49]) ++ (WN 18 ++ [50])) p []).1 with
        | true => rw [hr] at hxq; exact hxq
        | false => rw [hr] at hxq; exact hxq
      · rw [hpo] at hcm
        cases hr : (mtc t n ((WN 17 ++ [49]) ++ (WN 18 ++ [50])) p []).1 with
        | true =>
          rw [if_pos hr] at hcm
          cases hcm
          exact ⟨hsq, (hnq hr).1, fun _ => (hnq hr).2⟩
        | false =>
          rw [if_neg (by rw [hr]; decide)] at hcm
          cases hcm
    by_cases hc104 : t p = 104
    · skip
      have hv : hvv t n p = nI 104 := by unfold hvv; rw [if_pos hpn, hc104]
      rw [hv]
      refine J_tableIn (tgt := 212) (off := 207) dX9_readsOne_5 (by decide) (by decide) (by decide) (by decide) ?_
      have hw : wh t n p = some 6 := by unfold wh; simp [hpn, hc104]
      refine J_aload_n dX9_readsOne_212 rfl rfl ?_
      refine J_bipush (v := nI 104) dX9_readsOne_213 (by decide) ?_
      refine J_ldcwS dX9_readsOne_215 (List.mem_of_getElem? (i := 10) rfl) (by omega) ?_
      refine J_iconst (v := nI 1) dX9_readsOne_218 (by decide) ?_
      refine J_ldcwS dX9_readsOne_219 (List.mem_of_getElem? (i := 11) rfl) (by omega) ?_
      refine J_iconst (v := nI 2) dX9_readsOne_222 (by decide) ?_
      refine K_callVp dX9_readsOne_223 YX9_two kX9_249 (rc_of mO rfl) (c_X9_two (i := 19) (ch := 49) (i2 := 20) (ch2 := 50) hW hT hx hp hc (by decide) (by decide) (by decide) (by decide) (by decide) (by decide)) rfl rfl (Nat.le_of_ble_eq_true rfl) (by decide) (fun v223 w223 q223 => ?_)
      obtain ⟨rfl, hF, xq, f7q, hWq, hxq, hKq, hTKq, hsq, hnq⟩ := q223
      refine J_goto (tgt := 247) dX9_readsOne_226 (by decide) ?_
      have hpo : pOne t n p = if (mtc t n ((WN 19 ++ [49]) ++ (WN 20 ++ [50])) p []).1 = true then (some (6, (mtc t n ((WN 19 ++ [49]) ++ (WN 20 ++ [50])) p []).2.2), (mtc t n ((WN 19 ++ [49]) ++ (WN 20 ++ [50])) p []).2.1) else (none, (mtc t n ((WN 19 ++ [49]) ++ (WN 20 ++ [50])) p []).2.1) := by
        unfold pOne
        rw [hw]
        rfl
      refine fin xq f7q _ hWq ?_ hKq hTKq (fun cm hcm => ?_) hF
      · rw [hpo]
        cases hr : (mtc t n ((WN 19 ++ [49]) ++ (WN 20 ++ [50])) p []).1 with
        | true => rw [hr] at hxq; exact hxq
        | false => rw [hr] at hxq; exact hxq
      · rw [hpo] at hcm
        cases hr : (mtc t n ((WN 19 ++ [49]) ++ (WN 20 ++ [50])) p []).1 with
        | true =>
          rw [if_pos hr] at hcm
          cases hcm
          exact ⟨hsq, (hnq hr).1, fun _ => (hnq hr).2⟩
        | false =>
          rw [if_neg (by rw [hr]; decide)] at hcm
          cases hcm
    by_cases hc114 : t p = 114
    · skip
      have hv : hvv t n p = nI 114 := by unfold hvv; rw [if_pos hpn, hc114]
      rw [hv]
      refine J_tableIn (tgt := 229) (off := 224) dX9_readsOne_5 (by decide) (by decide) (by decide) (by decide) ?_
      have hw : wh t n p = some 7 := by unfold wh; simp [hpn, hc114]
      refine J_aload_n dX9_readsOne_229 rfl rfl ?_
      refine J_bipush (v := nI 114) dX9_readsOne_230 (by decide) ?_
      refine J_ldcwS dX9_readsOne_232 (List.mem_of_getElem? (i := 12) rfl) (by omega) ?_
      refine J_iconst (v := nI 1) dX9_readsOne_235 (by decide) ?_
      refine K_callVp dX9_readsOne_236 YX9_one kX9_235 (rc_of mO rfl) (c_X9_one (i := 21) (ch := 49) hW hT hx hp hc (by decide) (by decide) (by decide)) rfl rfl (Nat.le_of_ble_eq_true rfl) (by decide) (fun v236 w236 q236 => ?_)
      obtain ⟨rfl, hF, xq, f7q, hWq, hxq, hKq, hTKq, hsq, hnq, -, -⟩ := q236
      refine J_goto (tgt := 247) dX9_readsOne_239 (by decide) ?_
      have hpo : pOne t n p = if (mtc t n (WN 21 ++ [49]) p []).1 = true then (some (7, (mtc t n (WN 21 ++ [49]) p []).2.2), (mtc t n (WN 21 ++ [49]) p []).2.1) else (none, (mtc t n (WN 21 ++ [49]) p []).2.1) := by
        unfold pOne
        rw [hw]
        rfl
      refine fin xq f7q _ hWq ?_ hKq hTKq (fun cm hcm => ?_) hF
      · rw [hpo]
        cases hr : (mtc t n (WN 21 ++ [49]) p []).1 with
        | true => rw [hr] at hxq; exact hxq
        | false => rw [hr] at hxq; exact hxq
      · rw [hpo] at hcm
        cases hr : (mtc t n (WN 21 ++ [49]) p []).1 with
        | true =>
          rw [if_pos hr] at hcm
          cases hcm
          exact ⟨hsq, hnq hr, fun z => by rcases z with z | z | z | z <;> cases z⟩
        | false =>
          rw [if_neg (by rw [hr]; decide)] at hcm
          cases hcm
    have hw : wh t n p = none := by unfold wh; simp [hpn, hc98, hc99, hc108, hc116, hc103, hc104, hc114]
    have ht6 := (hT.2 p hpn).2
    have hv : hvv t n p = nI (t p) := if_pos hpn
    rw [hv]
    by_cases hin : 98 ≤ t p ∧ t p ≤ 116
    · have hcs : t p = 100 ∨ t p = 101 ∨ t p = 102 ∨ t p = 105 ∨ t p = 106 ∨ t p = 107 ∨ t p = 109 ∨ t p = 110 ∨ t p = 111 ∨ t p = 112 ∨ t p = 113 ∨ t p = 115 := by omega
      rcases hcs with q | q | q | q | q | q | q | q | q | q | q | q <;> (rw [q]; exact J_tableIn (tgt := 242) (off := 237) dX9_readsOne_5 (by decide) (by decide) (by decide) (by decide) (none_ hw))
    · exact J_tableOut (tgt := 242) dX9_readsOne_5 (by rw [nI_toInt (by omega)]; omega) (by decide) (none_ hw)
  · have hw : wh t n p = none := by unfold wh; rw [if_pos hpn]
    rw [show hvv t n p = -1 from if_neg hpn]
    exact J_tableOut (tgt := 242) dX9_readsOne_5 (by decide) (by decide) (none_ hw)

end JMCOM

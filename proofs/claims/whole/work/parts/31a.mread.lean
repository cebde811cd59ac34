/-! THE MODEL: what is asked of it -/
section JMREAD
-- reads
theorem bit_of {x : Int32} {p : Nat → Bool} {k : Nat} (h : bits x p) (hk : k < 32) : (x >>> (nI k &&& 31)) &&& 1 = b2i (p k) := by rw [shr_bit x hk, h k hk]
theorem in_vi {n : Nat} (hn : n < 2 ^ 31) (x : Int32) : decide (nI 0 ≤ x ∧ x ≤ nI n - nI 1) = (vi n x).isSome := by
  have hv : (vi n x).isSome = decide (0 ≤ x.toInt ∧ x.toInt < n) := by
    unfold vi
    by_cases h : 0 ≤ x.toInt ∧ x.toInt < n
    · rw [if_pos h, decide_eq_true h]; rfl
    · rw [if_neg h, decide_eq_false h]; rfl
  rw [hv]
  apply decide_eq_decide.mpr
  rw [nI_le' (by omega)]
  cases n with
  | zero =>
    have h1 : nI 0 - nI 1 = -1 := by decide
    have h2 : (-1 : Int32).toInt = -1 := by decide
    rw [h1, Int32.le_iff_toInt_le, h2]
    omega
  | succ n =>
    rw [nI_sub (by omega), le_nI' (by omega)]
    omega
theorem in_19 (x : Int32) : decide (nI 1 ≤ x ∧ x ≤ nI 9) = (v19 x).isSome := by
  have hv : (v19 x).isSome = decide (1 ≤ x.toInt ∧ x.toInt ≤ 9) := by
    unfold v19
    by_cases h : 1 ≤ x.toInt ∧ x.toInt ≤ 9
    · rw [if_pos h, decide_eq_true h]; rfl
    · rw [if_neg h, decide_eq_false h]; rfl
  rw [hv]
  apply decide_eq_decide.mpr
  rw [nI_le' (by omega), le_nI' (by omega)]
  omega
theorem cnt_b2i (n : Nat) (p : Nat → Bool) : nI (cnt n p) + b2i (p n) = nI (cnt (n + 1) p) := by
  show _ = nI (cnt n p + (if p n = true then 1 else 0))
  cases p n with
  | true => exact nI_1 _
  | false => exact Int32.add_zero _
theorem cnt_t {n : Nat} {p : Nat → Bool} (h : p n = true) : cnt (n + 1) p = cnt n p + 1 := by
  show cnt n p + (if p n = true then 1 else 0) = _
  rw [if_pos h]
theorem cnt_f {n : Nat} {p : Nat → Bool} (h : p n = false) : cnt (n + 1) p = cnt n p := by
  show cnt n p + (if p n = true then 1 else 0) = _
  rw [if_neg (by rw [h]; decide)]; rfl
theorem dF_lt {o : Option Nat} (h : dF 9999 o < 9999) : ∃ c, o = some c := by
  cases o with
  | none => exact absurd h (Nat.lt_irrefl _)
  | some c => exact ⟨c, rfl⟩
theorem dF_ge {o : Option Nat} (hb : ∀ c, o = some c → c ≤ 117) (h : ¬ dF 9999 o < 9999) : o = none := by
  cases o with
  | none => rfl
  | some c =>
    have := hb c rfl
    exact absurd (show c < 9999 by omega) h
theorem dF9_le {S : St} (h : WF S) {s x : Nat} (hx : x < sNb S) : dF 9999 (dS S s x) ≤ 9999 := by
  cases e : dS S s x with
  | none => exact Nat.le_refl _
  | some c => have := dS_le h hx e; show c ≤ 9999; omega
noncomputable def nxP (S : St) (p g c b : Nat) : Bool := sLk S p b && (match dS S b g with
  | none => false
  | some c' => c' + sLen S b == c)
theorem nx_of {S : St} {t g c : Nat} (hg : sGo S t = some g) (hne : ¬ g = sPl S t) (hc : dS S (sPl S t) g = some c) : nx S t = fnd (sNb S) (nxP S (sPl S t) g c) := by
  unfold nx
  rw [hg]
  simp only
  rw [if_neg hne, hc]
  rfl
theorem nx_no {S : St} {t g : Nat} (hg : sGo S t = some g) (h : g = sPl S t ∨ dS S (sPl S t) g = none) : nx S t = none := by
  unfold nx
  rw [hg]
  simp only
  by_cases e : g = sPl S t
  · rw [if_pos e]
  · rw [if_neg e]
    rcases h with h | h
    · exact absurd h e
    · rw [h]
theorem nx_ng {S : St} {t : Nat} (hg : sGo S t = none) : nx S t = none := by
  unfold nx
  rw [hg]
theorem nxP_t {S : St} {p g c b : Nat} (hl : sLk S p b = true) (hb : c ≤ 117) (he : dF 9999 (dS S b g) + sLen S b = c) : nxP S p g c b = true := by
  unfold nxP
  rw [hl]
  cases q : dS S b g with
  | none =>
    rw [q] at he
    have : 9999 + sLen S b = c := he
    omega
  | some c' =>
    rw [q] at he
    have : c' + sLen S b = c := he
    simp [this]
theorem nxP_f {S : St} {p g c b : Nat} (h : sLk S p b = false ∨ ¬ dF 9999 (dS S b g) + sLen S b = c) : nxP S p g c b = false := by
  unfold nxP
  rcases h with h | h
  · rw [h]; rfl
  · cases q : dS S b g with
    | none => simp
    | some c' =>
      rw [q] at h
      have h : ¬ c' + sLen S b = c := h
      simp [h]
theorem c_X9_in {w : Wd} (a b c : Int32) : MC 2 mX9_in 0 0 [.int a, .int b, .int c] w (RI (.int (b2i (decide (b ≤ a ∧ a ≤ c)))) w) := by
  refine MC_j pnX9 rfl rfl rfl (Or.inr (fun E w h => by cases h.1)) ?_
  show J 2 mX9_in 0 [some (.int a), some (.int b), some (.int c)] [] w 0 0 _
  refine J_iload_n dX9_in_0 rfl rfl ?_
  refine J_iload_n dX9_in_1 rfl rfl ?_
  refine J_icmp_lt (tgt := 14) dX9_in_2 (by decide) (fun h2 => ?_) (fun h2 => ?_)
  · skip
    refine J_iconst (v := nI 0) dX9_in_14 (by decide) ?_
    exact J_ireturn dX9_in_15 rfl rfl ⟨by rw [decide_eq_false (fun z => absurd z.1 (Int32.not_le.mpr h2))]; rfl, rfl⟩
  · skip
    refine J_iload_n dX9_in_5 rfl rfl ?_
    refine J_iload_n dX9_in_6 rfl rfl ?_
    refine J_icmp_gt (tgt := 14) dX9_in_7 (by decide) (fun h7 => ?_) (fun h7 => ?_)
    · skip
      refine J_iconst (v := nI 0) dX9_in_14 (by decide) ?_
      exact J_ireturn dX9_in_15 rfl rfl ⟨by rw [decide_eq_false (fun z => absurd z.2 (Int32.not_le.mpr h7))]; rfl, rfl⟩
    · skip
      refine J_iconst (v := nI 1) dX9_in_10 (by decide) ?_
      refine J_goto (tgt := 15) dX9_in_11 (by decide) ?_
      exact J_ireturn dX9_in_15 rfl rfl ⟨by rw [decide_eq_true (And.intro (Int32.not_lt.mp h2) (Int32.not_lt.mp h7))]; rfl, rfl⟩

theorem c_X9_inV {w : Wd} {n : Nat} (hn : n < 2 ^ 31) (x : Int32) : MC 2 mX9_in 0 0 [.int x, .int (nI 0), .int (nI n - nI 1)] w (RI (.int (b2i (vi n x).isSome)) w) := in_vi hn x ▸ c_X9_in x (nI 0) (nI n - nI 1)
theorem c_X9_in19 {w : Wd} (x : Int32) : MC 2 mX9_in 0 0 [.int x, .int (nI 1), .int (nI 9)] w (RI (.int (b2i (v19 x).isSome)) w) := in_19 x ▸ c_X9_in x (nI 1) (nI 9)
theorem c_X9_isBlock {w : Wd} {m : Nat} {x : Nat → Int32} {f : Nat → Int32} {S : St} (mO : w.1 m = mCell m x) (mS : w.1 (m + 1) = .inl (0, 116, .inl f)) (hfit : FitM f S) (y : Int32) : MC 3 mX9_isBlock 0 0 [.ref m, .int y] w (RI (.int (b2i (vi (sNb S) y).isSome)) w) := by
  have hwf := hfit.2.2.2.2
  have hnb := hwf.nb
  have hnt := hwf.nt
  refine MC_j pnX9 rfl rfl rfl (Or.inr (fun E w h => by cases h.1)) ?_
  show J 3 mX9_isBlock 0 [some (.ref m), some (.int y)] [] w 0 0 _
  refine J_iload_n dX9_isBlock_0 rfl rfl ?_
  refine J_iconst (v := nI 0) dX9_isBlock_1 (by decide) ?_
  refine J_aload_n dX9_isBlock_2 rfl rfl ?_
  refine J_getfield dX9_isBlock_3 fX9_7 mO rfl ?_
  refine J_iconst (v := nI 0) dX9_isBlock_6 (by decide) ?_
  refine K_iald (v := nI (sNb S)) dX9_isBlock_7 mS (by omega) (by decide) hfit.1.1 ?_
  refine J_iconst (v := nI 1) dX9_isBlock_8 (by decide) ?_
  refine K_isub (v := nI (sNb S) - nI 1) dX9_isBlock_9 rfl ?_
  refine K_callS dX9_isBlock_10 YX9_in kX9_63 (c_X9_inV (by omega) y) rfl rfl (Nat.le_of_ble_eq_true rfl) (by decide) ?_
  exact J_ireturn dX9_isBlock_13 rfl (b2i_nar _) ⟨rfl, rfl⟩

theorem c_X9_isTrain {w : Wd} {m : Nat} {x : Nat → Int32} {f : Nat → Int32} {S : St} (mO : w.1 m = mCell m x) (mS : w.1 (m + 1) = .inl (0, 116, .inl f)) (hfit : FitM f S) (y : Int32) : MC 3 mX9_isTrain 0 0 [.ref m, .int y] w (RI (.int (b2i (vi (sNt S) y).isSome)) w) := by
  have hwf := hfit.2.2.2.2
  have hnb := hwf.nb
  have hnt := hwf.nt
  refine MC_j pnX9 rfl rfl rfl (Or.inr (fun E w h => by cases h.1)) ?_
  show J 3 mX9_isTrain 0 [some (.ref m), some (.int y)] [] w 0 0 _
  refine J_iload_n dX9_isTrain_0 rfl rfl ?_
  refine J_iconst (v := nI 0) dX9_isTrain_1 (by decide) ?_
  refine J_aload_n dX9_isTrain_2 rfl rfl ?_
  refine J_getfield dX9_isTrain_3 fX9_7 mO rfl ?_
  refine J_iconst (v := nI 1) dX9_isTrain_6 (by decide) ?_
  refine K_iald (v := nI (sNt S)) dX9_isTrain_7 mS (by omega) (by decide) hfit.1.2.1 ?_
  refine J_iconst (v := nI 1) dX9_isTrain_8 (by decide) ?_
  refine K_isub (v := nI (sNt S) - nI 1) dX9_isTrain_9 rfl ?_
  refine K_callS dX9_isTrain_10 YX9_in kX9_63 (c_X9_inV (by omega) y) rfl rfl (Nat.le_of_ble_eq_true rfl) (by decide) ?_
  exact J_ireturn dX9_isTrain_13 rfl (b2i_nar _) ⟨rfl, rfl⟩

end JMREAD

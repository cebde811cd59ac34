/-! THE MODEL: what is asked of it -/
section JMREAD
theorem c_X9_block {w : Wd} {m : Nat} {x : Nat → Int32} {f : Nat → Int32} (mO : w.1 m = mCell m x) (mS : w.1 (m + 1) = .inl (0, 116, .inl f)) {b k : Nat} (hk : 4 + 4 * b + k < 116) : MC 2 mX9_block 0 0 [.ref m, .int (nI b), .int (nI k)] w (RI (.int (f (4 + 4 * b + k))) w) := by
  refine MC_j pnX9 rfl rfl rfl (Or.inr (fun E w h => by cases h.1)) ?_
  show J 2 mX9_block 0 [some (.ref m), some (.int (nI b)), some (.int (nI k))] [] w 0 0 _
  refine J_aload_n dX9_block_0 rfl rfl ?_
  refine J_getfield dX9_block_1 fX9_7 mO rfl ?_
  refine J_iconst (v := nI 4) dX9_block_4 (by decide) ?_
  refine J_iconst (v := nI 4) dX9_block_5 (by decide) ?_
  refine J_iload_n dX9_block_6 rfl rfl ?_
  refine K_imul (v := nI (4 * b)) dX9_block_7 (nI_mul _ _) ?_
  refine K_iadd (v := nI (4 + (4 * b))) dX9_block_8 (nI_add _ _) ?_
  refine J_iload_n dX9_block_9 rfl rfl ?_
  refine K_iadd (v := nI (4 + (4 * b) + k)) dX9_block_10 (nI_add _ _) ?_
  refine K_iald (v := f (4 + 4 * b + k)) dX9_block_11 mS (by omega) (by decide) rfl ?_
  exact J_ireturn dX9_block_12 rfl rfl ⟨rfl, rfl⟩

theorem c_X9_train {w : Wd} {m : Nat} {x : Nat → Int32} {f : Nat → Int32} (mO : w.1 m = mCell m x) (mS : w.1 (m + 1) = .inl (0, 116, .inl f)) {t k : Nat} (hk : 74 + 7 * t + k < 116) : MC 2 mX9_train 0 0 [.ref m, .int (nI t), .int (nI k)] w (RI (.int (f (74 + 7 * t + k))) w) := by
  refine MC_j pnX9 rfl rfl rfl (Or.inr (fun E w h => by cases h.1)) ?_
  show J 2 mX9_train 0 [some (.ref m), some (.int (nI t)), some (.int (nI k))] [] w 0 0 _
  refine J_aload_n dX9_train_0 rfl rfl ?_
  refine J_getfield dX9_train_1 fX9_7 mO rfl ?_
  refine J_bipush (v := nI 74) dX9_train_4 (by decide) ?_
  refine J_bipush (v := nI 7) dX9_train_6 (by decide) ?_
  refine J_iload_n dX9_train_8 rfl rfl ?_
  refine K_imul (v := nI (7 * t)) dX9_train_9 (nI_mul _ _) ?_
  refine K_iadd (v := nI (74 + (7 * t))) dX9_train_10 (nI_add _ _) ?_
  refine J_iload_n dX9_train_11 rfl rfl ?_
  refine K_iadd (v := nI (74 + (7 * t) + k)) dX9_train_12 (nI_add _ _) ?_
  refine K_iald (v := f (74 + 7 * t + k)) dX9_train_13 mS (by omega) (by decide) rfl ?_
  exact J_ireturn dX9_train_14 rfl rfl ⟨rfl, rfl⟩

theorem c_X9_sets {w : Wd} {m : Nat} {x : Nat → Int32} {f : Nat → Int32} (mO : w.1 m = mCell m x) (mS : w.1 (m + 1) = .inl (0, 116, .inl f)) {t k : Nat} (hk : 74 + 7 * t + k < 116) (v : Int32) : MC 2 mX9_sets 0 0 [.ref m, .int (nI t), .int (nI k), .int v] w (RP (fun r w' => r = none ∧ Up w w' (m + 1) (.inl (0, 116, .inl (va_up f (74 + 7 * t + k) v))))) := by
  refine MC_j pnX9 rfl rfl rfl (Or.inr (fun E w h => RP_no E w h)) ?_
  show J 2 mX9_sets 0 [some (.ref m), some (.int (nI t)), some (.int (nI k)), some (.int v)] [] w 0 0 _
  refine J_aload_n dX9_sets_0 rfl rfl ?_
  refine J_getfield dX9_sets_1 fX9_7 mO rfl ?_
  refine J_bipush (v := nI 74) dX9_sets_4 (by decide) ?_
  refine J_bipush (v := nI 7) dX9_sets_6 (by decide) ?_
  refine J_iload_n dX9_sets_8 rfl rfl ?_
  refine K_imul (v := nI (7 * t)) dX9_sets_9 (nI_mul _ _) ?_
  refine K_iadd (v := nI (74 + (7 * t))) dX9_sets_10 (nI_add _ _) ?_
  refine J_iload_n dX9_sets_11 rfl rfl ?_
  refine K_iadd (v := nI (74 + (7 * t) + k)) dX9_sets_12 (nI_add _ _) ?_
  refine J_iload_n dX9_sets_13 rfl rfl ?_
  refine K_iast dX9_sets_14 mS (by omega) (by decide) (fun w1 u1 => ?_)
  have mO := (u1.2.1 _ (by omega)).trans mO
  have mS := u1.1
  exact J_return dX9_sets_15 rfl (RP_i ⟨rfl, u1⟩)

theorem c_X9_bLen {w : Wd} {m : Nat} {x : Nat → Int32} {f : Nat → Int32} {S : St} (mO : w.1 m = mCell m x) (mS : w.1 (m + 1) = .inl (0, 116, .inl f)) (hfit : FitM f S) {b : Nat} (hb : b < sNb S) : MC 2 mX9_block 0 0 [.ref m, .int (nI b), .int (nI 0)] w (RI (.int (nI (sLen S b))) w) := by
  have hwf := hfit.2.2.2.2
  have hnb := hwf.nb
  have hnt := hwf.nt
  have h := c_X9_block mO mS (b := b) (k := 0) (by omega)
  rw [(hfit.2.1 b hb).1] at h
  exact h
theorem c_X9_bCu {w : Wd} {m : Nat} {x : Nat → Int32} {f : Nat → Int32} {S : St} (mO : w.1 m = mCell m x) (mS : w.1 (m + 1) = .inl (0, 116, .inl f)) (hfit : FitM f S) {b : Nat} (hb : b < sNb S) : MC 2 mX9_block 0 0 [.ref m, .int (nI b), .int (nI 1)] w (RI (.int (b2i (sCu S b))) w) := by
  have hwf := hfit.2.2.2.2
  have hnb := hwf.nb
  have hnt := hwf.nt
  have h := c_X9_block mO mS (b := b) (k := 1) (by omega)
  rw [(hfit.2.1 b hb).2.1] at h
  exact h
theorem c_X9_bCa {w : Wd} {m : Nat} {x : Nat → Int32} {f : Nat → Int32} {S : St} (mO : w.1 m = mCell m x) (mS : w.1 (m + 1) = .inl (0, 116, .inl f)) (hfit : FitM f S) {b : Nat} (hb : b < sNb S) : MC 2 mX9_block 0 0 [.ref m, .int (nI b), .int (nI 2)] w (RI (.int (b2i (sCa S b))) w) := by
  have hwf := hfit.2.2.2.2
  have hnb := hwf.nb
  have hnt := hwf.nt
  have h := c_X9_block mO mS (b := b) (k := 2) (by omega)
  rw [(hfit.2.1 b hb).2.2.1] at h
  exact h
theorem c_X9_bHo {w : Wd} {m : Nat} {x : Nat → Int32} {f : Nat → Int32} {S : St} (mO : w.1 m = mCell m x) (mS : w.1 (m + 1) = .inl (0, 116, .inl f)) (hfit : FitM f S) {b : Nat} (hb : b < sNb S) : MC 2 mX9_block 0 0 [.ref m, .int (nI b), .int (nI 3)] w (RI (.int (hN (hOf S b))) w) := by
  have hwf := hfit.2.2.2.2
  have hnb := hwf.nb
  have hnt := hwf.nt
  have h := c_X9_block mO mS (b := b) (k := 3) (by omega)
  rw [(hfit.2.1 b hb).2.2.2] at h
  exact h
theorem c_X9_tPl {w : Wd} {m : Nat} {x : Nat → Int32} {f : Nat → Int32} {S : St} (mO : w.1 m = mCell m x) (mS : w.1 (m + 1) = .inl (0, 116, .inl f)) (hfit : FitM f S) {t : Nat} (ht : t < sNt S) : MC 2 mX9_train 0 0 [.ref m, .int (nI t), .int (nI 0)] w (RI (.int (nI (sPl S t))) w) := by
  have hwf := hfit.2.2.2.2
  have hnb := hwf.nb
  have hnt := hwf.nt
  have h := c_X9_train mO mS (t := t) (k := 0) (by omega)
  rw [(hfit.2.2.2.1 t ht).1] at h
  exact h
theorem c_X9_tPr {w : Wd} {m : Nat} {x : Nat → Int32} {f : Nat → Int32} {S : St} (mO : w.1 m = mCell m x) (mS : w.1 (m + 1) = .inl (0, 116, .inl f)) (hfit : FitM f S) {t : Nat} (ht : t < sNt S) : MC 2 mX9_train 0 0 [.ref m, .int (nI t), .int (nI 1)] w (RI (.int (nI (sPr S t))) w) := by
  have hwf := hfit.2.2.2.2
  have hnb := hwf.nb
  have hnt := hwf.nt
  have h := c_X9_train mO mS (t := t) (k := 1) (by omega)
  rw [(hfit.2.2.2.1 t ht).2.1] at h
  exact h
theorem c_X9_tRe {w : Wd} {m : Nat} {x : Nat → Int32} {f : Nat → Int32} {S : St} (mO : w.1 m = mCell m x) (mS : w.1 (m + 1) = .inl (0, 116, .inl f)) (hfit : FitM f S) {t : Nat} (ht : t < sNt S) : MC 2 mX9_train 0 0 [.ref m, .int (nI t), .int (nI 2)] w (RI (.int (nI (sRe S t))) w) := by
  have hwf := hfit.2.2.2.2
  have hnb := hwf.nb
  have hnt := hwf.nt
  have h := c_X9_train mO mS (t := t) (k := 2) (by omega)
  rw [(hfit.2.2.2.1 t ht).2.2.1] at h
  exact h
theorem c_X9_tGo {w : Wd} {m : Nat} {x : Nat → Int32} {f : Nat → Int32} {S : St} (mO : w.1 m = mCell m x) (mS : w.1 (m + 1) = .inl (0, 116, .inl f)) (hfit : FitM f S) {t : Nat} (ht : t < sNt S) : MC 2 mX9_train 0 0 [.ref m, .int (nI t), .int (nI 3)] w (RI (.int (hN (sGo S t))) w) := by
  have hwf := hfit.2.2.2.2
  have hnb := hwf.nb
  have hnt := hwf.nt
  have h := c_X9_train mO mS (t := t) (k := 3) (by omega)
  rw [(hfit.2.2.2.1 t ht).2.2.2.1] at h
  exact h
theorem c_X9_tOf {w : Wd} {m : Nat} {x : Nat → Int32} {f : Nat → Int32} {S : St} (mO : w.1 m = mCell m x) (mS : w.1 (m + 1) = .inl (0, 116, .inl f)) (hfit : FitM f S) {t : Nat} (ht : t < sNt S) : MC 2 mX9_train 0 0 [.ref m, .int (nI t), .int (nI 4)] w (RI (.int (b2i (sOf S t))) w) := by
  have hwf := hfit.2.2.2.2
  have hnb := hwf.nb
  have hnt := hwf.nt
  have h := c_X9_train mO mS (t := t) (k := 4) (by omega)
  rw [(hfit.2.2.2.1 t ht).2.2.2.2.1] at h
  exact h
theorem c_X9_tWa {w : Wd} {m : Nat} {x : Nat → Int32} {f : Nat → Int32} {S : St} (mO : w.1 m = mCell m x) (mS : w.1 (m + 1) = .inl (0, 116, .inl f)) (hfit : FitM f S) {t : Nat} (ht : t < sNt S) : MC 2 mX9_train 0 0 [.ref m, .int (nI t), .int (nI 5)] w (RI (.int (sWa S t)) w) := by
  have hwf := hfit.2.2.2.2
  have hnb := hwf.nb
  have hnt := hwf.nt
  have h := c_X9_train mO mS (t := t) (k := 5) (by omega)
  rw [(hfit.2.2.2.1 t ht).2.2.2.2.2] at h
  exact h
end JMREAD

/-! THE READER OF COMMANDS -/
section JREAD
/-- the reader at c: n characters t, a position, whether the text has ended, the command read last, its numbers -/
def RepD (w : Wd) (c : Nat) (t : Nat → Nat) (n p : Nat) (e : Bool) (m : Nat) (x1 x2 : Int32) : Prop := ∃ f : Nat → Int32, w.1 c = .inr (2, [.ref (c + 1), .int (nI n), .int (nI p), .int (b2i e), .ref m, .int x1, .int x2]) ∧ w.1 (c + 1) = .inl (1, 60, .inl f) ∧ n ≤ 60 ∧ ∀ j, j < n → f j = nI (t j) ∧ t j < 65536
theorem RepD.fr {w w' : Wd} {c lo hi : Nat} {t : Nat → Nat} {n p : Nat} {e : Bool} {m : Nat} {x1 x2 : Int32} (h : RepD w c t n p e m x1 x2) (k : Fr w w' lo hi) (g : c + 2 ≤ lo ∨ hi ≤ c) : RepD w' c t n p e m x1 x2 := by
  obtain ⟨f, a0, a1, a2⟩ := h
  exact ⟨f, (k.1 _ (by omega)).trans a0, (k.1 _ (by omega)).trans a1, a2⟩
def cntD (l : List Nat) : Nat := (l.filter (fun c => decide (c = 49 ∨ c = 50))).length
theorem FM_cnt : ∀ k, k < 9 → cntD (FM k) ≤ 2 := by decide +kernel
theorem drop_at {l : List Nat} {i : Nat} (h : i < l.length) : l.drop i = l.getD i 0 :: l.drop (i + 1) := by
  rw [List.drop_eq_getElem_cons h]
  congr 1
  rw [List.getD_eq_getElem?_getD, List.getElem?_eq_getElem h]
  rfl
theorem isD_f {t : Nat → Nat} {n i : Nat} (h : ¬ (i < n ∧ 48 ≤ t i ∧ t i ≤ 57)) : isD t n i = false := by
  cases q : isD t n i with
  | false => rfl
  | true => exact absurd (isD_t.mp q) h
theorem cntD_d {c : Nat} {l : List Nat} (h : c = 49 ∨ c = 50) : cntD (c :: l) = cntD l + 1 := by unfold cntD; rw [List.filter_cons_of_pos (by simpa using h)]; rfl
theorem cntD_c {c : Nat} {l : List Nat} (h : ¬ (c = 49 ∨ c = 50)) : cntD (c :: l) = cntD l := by unfold cntD; rw [List.filter_cons_of_neg (by simpa using h)]
theorem xor_m1 : ∀ q, q < 200 → (nI q ^^^ (-1)) < 0 ∧ (nI q ^^^ (-1)) ^^^ (-1) = nI q := by decide +kernel
/-- what a match answers -/
def mtA (R : Bool × Nat × List Nat) : Int32 := if R.1 = true then nI R.2.1 else nI R.2.1 ^^^ (-1)
def numsOk (ns : List Nat) (y1 y2 : Int32) : Prop := (1 ≤ ns.length → y1 = nI (ns.getD 0 0)) ∧ (2 ≤ ns.length → y2 = nI (ns.getD 1 0))
theorem getD_a0 {l : List Nat} {v : Nat} (h : 1 ≤ l.length) : (l ++ [v]).getD 0 0 = l.getD 0 0 := by rw [getD_app, if_pos (by omega)]
theorem numsOk_app {ns : List Nat} {y1 y2 : Int32} {v : Nat} (h : numsOk ns y1 y2) (hl : ns.length ≤ 1) : numsOk (ns ++ [v]) (if ns.length = 0 then nI v else y1) (if ns.length = 0 then y2 else nI v) := by
  refine ⟨fun _ => ?_, fun h2 => ?_⟩
  · rw [getD_app]
    by_cases e : ns.length = 0
    · rw [if_pos e, if_neg (by omega), if_pos (by omega)]
    · rw [if_neg e, if_pos (by omega)]
      exact h.1 (by omega)
  · have e : ns.length = 1 := by simp at h2; omega
    rw [if_neg (by omega), getD_app, if_neg (by omega), if_pos (by omega)]
theorem c_X2_clear {w : Wd} {c : Nat} {t : Nat → Nat} {n p : Nat} {e : Bool} {cm : Nat} {x1 x2 : Int32} (hD : RepD w c t n p e cm x1 x2) : MC 2 mX2_clear 0 0 [.ref c] w (RP (fun v w' => v = none ∧ Fr w w' c (c + 1) ∧ RepD w' c t 0 p e cm x1 x2)) := by
  obtain ⟨f, dO, dA, dn, hf⟩ := id hD
  refine MC_j pnX2 rfl rfl rfl (Or.inr (fun E w h => RP_no E w h)) ?_
  show J 2 mX2_clear 0 [some (.ref c)] [] w 0 0 _
  refine J_aload_n dX2_clear_0 rfl rfl ?_
  refine J_iconst (v := nI 0) dX2_clear_1 (by decide) ?_
  refine K_putI dX2_clear_2 fX2_15 (Or.inl rfl) dO (Nat.le_of_ble_eq_true rfl) (fun w1 u1 => ?_)
  have dA := (u1.2.1 _ (by omega)).trans dA
  have dO := u1.1
  have dO : w1.1 c = .inr (2, [.ref (c + 1), .int (nI 0), .int (nI p), .int (b2i e), .ref cm, .int x1, .int x2]) := dO
  exact J_return dX2_clear_5 rfl (RP_i ⟨rfl, ((Fr.rf _ _ _).up u1 (by omega) (by omega)), f, dO, dA, by omega, fun j hj => by omega⟩)

theorem c_X2_rewind {w : Wd} {c : Nat} {t : Nat → Nat} {n p : Nat} {e : Bool} {cm : Nat} {x1 x2 : Int32} (hD : RepD w c t n p e cm x1 x2) : MC 2 mX2_rewind 0 0 [.ref c] w (RP (fun v w' => v = none ∧ Fr w w' c (c + 1) ∧ RepD w' c t n 0 false cm x1 x2)) := by
  obtain ⟨f, dO, dA, dn, hf⟩ := id hD
  refine MC_j pnX2 rfl rfl rfl (Or.inr (fun E w h => RP_no E w h)) ?_
  show J 2 mX2_rewind 0 [some (.ref c)] [] w 0 0 _
  refine J_aload_n dX2_rewind_0 rfl rfl ?_
  refine J_iconst (v := nI 0) dX2_rewind_1 (by decide) ?_
  refine K_putI dX2_rewind_2 fX2_19 (Or.inl rfl) dO (Nat.le_of_ble_eq_true rfl) (fun w1 u1 => ?_)
  have dA := (u1.2.1 _ (by omega)).trans dA
  have dO := u1.1
  have dO : w1.1 c = .inr (2, [.ref (c + 1), .int (nI n), .int (nI 0), .int (b2i e), .ref cm, .int x1, .int x2]) := dO
  refine J_aload_n dX2_rewind_5 rfl rfl ?_
  refine J_iconst (v := nI 0) dX2_rewind_6 (by decide) ?_
  refine K_putZ dX2_rewind_7 fX2_22 (Or.inl rfl) dO (Nat.le_of_ble_eq_true rfl) (Or.inl rfl) (fun w2 u2 => ?_)
  have dA := (u2.2.1 _ (by omega)).trans dA
  have dO := u2.1
  have dO : w2.1 c = .inr (2, [.ref (c + 1), .int (nI n), .int (nI 0), .int (nI 0), .ref cm, .int x1, .int x2]) := dO
  exact J_return dX2_rewind_10 rfl (RP_i ⟨rfl, (((Fr.rf _ _ _).up u1 (by omega) (by omega)).up u2 (by omega) (by omega)), f, dO, dA, dn, hf⟩)

theorem c_X2_append {w : Wd} {c : Nat} {t : Nat → Nat} {n p : Nat} {e : Bool} {cm : Nat} {x1 x2 : Int32} (hD : RepD w c t n p e cm x1 x2) {ch : Nat} (hc : ch < 65536) (hn : vp_nar .char (nI ch) = nI ch) : MC 2 mX2_append 0 0 [.ref c, .int (nI ch)] w (RP (fun v w' => (v = some (.int 0) ∧ n = 60 ∧ w' = w) ∨ (v = some (.int 1) ∧ n < 60 ∧ Fr w w' c (c + 2) ∧ RepD w' c (va_up t n ch) (n + 1) p e cm x1 x2))) := by
  obtain ⟨f, dO, dA, dn, hf⟩ := id hD
  refine MC_j pnX2 rfl rfl rfl (Or.inr (fun E w h => RP_no E w h)) ?_
  show J 2 mX2_append 0 [some (.ref c), some (.int (nI ch))] [] w 0 0 _
  refine J_aload_n dX2_append_0 rfl rfl ?_
  refine J_getfield dX2_append_1 fX2_15 dO rfl ?_
  refine J_bipush (v := nI 60) dX2_append_4 (by decide) ?_
  refine J_icmp_lt (tgt := 11) dX2_append_6 (by decide) (fun h6 => ?_) (fun h6 => ?_)
  · skip
    have h6 := (nI_ltI (by omega) (by omega)).mp h6
    refine J_aload_n dX2_append_11 rfl rfl ?_
    refine J_getfield dX2_append_12 fX2_9 dO rfl ?_
    refine J_aload_n dX2_append_15 rfl rfl ?_
    refine J_getfield dX2_append_16 fX2_15 dO rfl ?_
    refine J_iload_n dX2_append_19 rfl rfl ?_
    refine K_cast dX2_append_20 dA (by omega) (by decide) (fun w1 u1 => ?_)
    have dA := u1.1
    have dO := (u1.2.1 _ (by omega)).trans dO
    refine J_aload_n dX2_append_21 rfl rfl ?_
    refine J_dup dX2_append_22 rfl ?_
    refine J_getfield dX2_append_23 fX2_15 dO rfl ?_
    refine J_iconst (v := nI 1) dX2_append_26 (by decide) ?_
    refine K_iadd (v := nI (n + 1)) dX2_append_27 (nI_add _ _) ?_
    refine K_putI dX2_append_28 fX2_15 (Or.inl rfl) dO (Nat.le_of_ble_eq_true rfl) (fun w2 u2 => ?_)
    have dA := (u2.2.1 _ (by omega)).trans dA
    have dO := u2.1
    have dO : w2.1 c = .inr (2, [.ref (c + 1), .int (nI (n + 1)), .int (nI p), .int (b2i e), .ref cm, .int x1, .int x2]) := dO
    refine J_iconst (v := nI 1) dX2_append_31 (by decide) ?_
    exact J_ireturn dX2_append_32 rfl rfl (RP_i (Or.inr ⟨rfl, (by omega), (((Fr.rf _ _ _).up u1 (by omega) (by omega)).up u2 (by omega) (by omega)), va_up f n (vp_nar .char (nI ch)), dO, dA, by omega, fun j hj => by
        by_cases e : j = n
        · subst e; rw [up_s, up_s]; exact ⟨hn, hc⟩
        · rw [up_n _ _ e, up_n _ _ e]; exact hf j (by omega)⟩))
  · skip
    have h6 := mt (nI_ltI (by omega) (by omega)).mpr h6
    have en : n = 60 := by omega
    refine J_iconst (v := nI 0) dX2_append_9 (by decide) ?_
    exact J_ireturn dX2_append_10 rfl rfl (RP_i (Or.inl ⟨rfl, en, rfl⟩))

theorem c_X2_isDigit {w : Wd} {c : Nat} {t : Nat → Nat} {n p : Nat} {e : Bool} {cm : Nat} {x1 x2 : Int32} (hD : RepD w c t n p e cm x1 x2) {i : Nat} (hi : i < 1000) : MC 2 mX2_isDigit 0 0 [.ref c, .int (nI i)] w (RI (.int (b2i (isD t n i))) w) := by
  obtain ⟨f, dO, dA, dn, hf⟩ := id hD
  refine MC_j pnX2 rfl rfl rfl (Or.inr (fun E w h => by cases h.1)) ?_
  show J 2 mX2_isDigit 0 [some (.ref c), some (.int (nI i))] [] w 0 0 _
  refine J_iload_n dX2_isDigit_0 rfl rfl ?_
  refine J_if_lt (tgt := 38) dX2_isDigit_1 (by decide) (fun h1 => ?_) (fun h1 => ?_)
  · skip
    have h1 := (nI_ltI (b := 0) (by omega) (by omega)).mp h1
    omega
  · skip
    have h1 := mt (nI_ltI (b := 0) (by omega) (by omega)).mpr h1
    refine J_iload_n dX2_isDigit_4 rfl rfl ?_
    refine J_aload_n dX2_isDigit_5 rfl rfl ?_
    refine J_getfield dX2_isDigit_6 fX2_15 dO rfl ?_
    refine J_icmp_ge (tgt := 38) dX2_isDigit_9 (by decide) (fun h9 => ?_) (fun h9 => ?_)
    · skip
      have h9 := (nI_leI (by omega) (by omega)).mp h9
      refine J_iconst (v := nI 0) dX2_isDigit_38 (by decide) ?_
      exact J_ireturn dX2_isDigit_39 rfl rfl ⟨by rw [show isD t n i = false from isD_f (fun q => by omega)]; rfl, rfl⟩
    · skip
      have h9 := mt (nI_leI (by omega) (by omega)).mpr h9
      refine J_aload_n dX2_isDigit_12 rfl rfl ?_
      refine J_getfield dX2_isDigit_13 fX2_9 dO rfl ?_
      refine J_iload_n dX2_isDigit_16 rfl rfl ?_
      have q17a := (hf i (by omega)).2
      refine K_cald (v := nI (t i)) dX2_isDigit_17 dA (by omega) (by decide) (hf _ (by omega)).1 ?_
      refine J_bipush (v := nI 48) dX2_isDigit_18 (by decide) ?_
      refine J_icmp_lt (tgt := 38) dX2_isDigit_20 (by decide) (fun h20 => ?_) (fun h20 => ?_)
      · skip
        have h20 := (nI_ltI (by omega) (by omega)).mp h20
        refine J_iconst (v := nI 0) dX2_isDigit_38 (by decide) ?_
        exact J_ireturn dX2_isDigit_39 rfl rfl ⟨by rw [show isD t n i = false from isD_f (fun q => by omega)]; rfl, rfl⟩
      · skip
        have h20 := mt (nI_ltI (by omega) (by omega)).mpr h20
        refine J_aload_n dX2_isDigit_23 rfl rfl ?_
        refine J_getfield dX2_isDigit_24 fX2_9 dO rfl ?_
        refine J_iload_n dX2_isDigit_27 rfl rfl ?_
        have q28a := (hf i (by omega)).2
        refine K_cald (v := nI (t i)) dX2_isDigit_28 dA (by omega) (by decide) (hf _ (by omega)).1 ?_
        refine J_bipush (v := nI 57) dX2_isDigit_29 (by decide) ?_
        refine J_icmp_gt (tgt := 38) dX2_isDigit_31 (by decide) (fun h31 => ?_) (fun h31 => ?_)
        · skip
          have h31 := (nI_ltI (by omega) (by omega)).mp h31
          refine J_iconst (v := nI 0) dX2_isDigit_38 (by decide) ?_
          exact J_ireturn dX2_isDigit_39 rfl rfl ⟨by rw [show isD t n i = false from isD_f (fun q => by omega)]; rfl, rfl⟩
        · skip
          have h31 := mt (nI_ltI (by omega) (by omega)).mpr h31
          refine J_iconst (v := nI 1) dX2_isDigit_34 (by decide) ?_
          refine J_goto (tgt := 39) dX2_isDigit_35 (by decide) ?_
          exact J_ireturn dX2_isDigit_39 rfl rfl ⟨by rw [show isD t n i = true from isD_t.mpr ⟨by omega, by omega, by omega⟩]; rfl, rfl⟩

theorem c_X2_putNumber {w : Wd} {c : Nat} {t : Nat → Nat} {n p : Nat} {e : Bool} {cm : Nat} {x1 x2 : Int32} (hD : RepD w c t n p e cm x1 x2) {a i g : Nat} (ha : a < 10) (hg : g ≤ 2) (hi : i ≤ n) (hd : ∀ j, j < g → isD t n (i + j) = true) : MC 2 mX2_putNumber 0 0 [.ref c, .int (nI a), .int (nI i), .int (nI g)] w (RP (fun v w' => v = none ∧ Fr w w' c (c + 1) ∧ RepD w' c t n p e cm (if a = 0 then nI (numA t i g) else x1) (if a = 0 then x2 else nI (numA t i g)))) := by
  obtain ⟨f, dO, dA, dn, hf⟩ := id hD
  refine MC_j pnX2 rfl rfl rfl (Or.inr (fun E w h => RP_no E w h)) ?_
  show J 2 mX2_putNumber 0 [some (.ref c), some (.int (nI a)), some (.int (nI i)), some (.int (nI g)), none, none] [] w 0 0 _
  have loop : ∀ m j, g < m + j → j ≤ g → J 2 mX2_putNumber 6 [some (.ref c), some (.int (nI a)), some (.int (nI i)), some (.int (nI g)), some (.int (nI (numA t i j))), some (.int (nI (i + j)))] [] w 0 0 (RP (fun v w' => v = none ∧ Fr w w' c (c + 1) ∧ RepD w' c t n p e cm (if a = 0 then nI (numA t i g) else x1) (if a = 0 then x2 else nI (numA t i g)))) := by
    intro m
    induction m with
    | zero => intros; omega
    | succ m ih =>
      intro j q1 q2
      refine J_iload dX2_putNumber_6 rfl ?_
      refine J_iload_n dX2_putNumber_8 rfl rfl ?_
      refine J_iload_n dX2_putNumber_9 rfl rfl ?_
      refine K_iadd (v := nI (i + g)) dX2_putNumber_10 (nI_add _ _) ?_
      refine J_icmp_ge (tgt := 38) dX2_putNumber_11 (by decide) (fun h11 => ?_) (fun h11 => ?_)
      · skip
        have h11 := (nI_leI (by omega) (by omega)).mp h11
        have ej : j = g := by omega
        subst ej
        refine J_iload_n dX2_putNumber_38 rfl rfl ?_
        refine J_if_ne (tgt := 51) dX2_putNumber_39 (by decide) (fun h39 => ?_) (fun h39 => ?_)
        · skip
          have h39 := mt (nI_eq (b := 0) (by omega) (by omega)).mpr h39
          refine J_aload_n dX2_putNumber_51 rfl rfl ?_
          refine J_iload dX2_putNumber_52 rfl ?_
          refine K_putI dX2_putNumber_54 fX2_38 (Or.inl rfl) dO (Nat.le_of_ble_eq_true rfl) (fun w1 u1 => ?_)
          have dA := (u1.2.1 _ (by omega)).trans dA
          have dO := u1.1
          have dO : w1.1 c = .inr (2, [.ref (c + 1), .int (nI n), .int (nI p), .int (b2i e), .ref cm, .int x1, .int (nI (numA t i j))]) := dO
          exact J_return dX2_putNumber_57 rfl (RP_i ⟨rfl, ((Fr.rf _ _ _).up u1 (by omega) (by omega)), by rw [if_neg (by omega), if_neg (by omega)]; exact ⟨f, dO, dA, dn, hf⟩⟩)
        · skip
          have h39 := (nI_eq (b := 0) (by omega) (by omega)).mp h39
          refine J_aload_n dX2_putNumber_42 rfl rfl ?_
          refine J_iload dX2_putNumber_43 rfl ?_
          refine K_putI dX2_putNumber_45 fX2_35 (Or.inl rfl) dO (Nat.le_of_ble_eq_true rfl) (fun w1 u1 => ?_)
          have dA := (u1.2.1 _ (by omega)).trans dA
          have dO := u1.1
          have dO : w1.1 c = .inr (2, [.ref (c + 1), .int (nI n), .int (nI p), .int (b2i e), .ref cm, .int (nI (numA t i j)), .int x2]) := dO
          refine J_goto (tgt := 57) dX2_putNumber_48 (by decide) ?_
          exact J_return dX2_putNumber_57 rfl (RP_i ⟨rfl, ((Fr.rf _ _ _).up u1 (by omega) (by omega)), by rw [if_pos (by omega), if_pos (by omega)]; exact ⟨f, dO, dA, dn, hf⟩⟩)
      · skip
        have h11 := mt (nI_leI (by omega) (by omega)).mpr h11
        have hdj := isD_t.mp (hd j (by omega))
        refine J_bipush (v := nI 10) dX2_putNumber_14 (by decide) ?_
        refine J_iload dX2_putNumber_16 rfl ?_
        refine K_imul (v := nI (10 * (numA t i j))) dX2_putNumber_18 (nI_mul _ _) ?_
        refine J_aload_n dX2_putNumber_19 rfl rfl ?_
        refine J_getfield dX2_putNumber_20 fX2_9 dO rfl ?_
        refine J_iload dX2_putNumber_23 rfl ?_
        have q25a := (hf (i + j) (by omega)).2
        refine K_cald (v := nI (t (i + j))) dX2_putNumber_25 dA (by omega) (by decide) (hf _ (by omega)).1 ?_
        refine K_iadd (v := nI (10 * (numA t i j) + (t (i + j)))) dX2_putNumber_26 (nI_add _ _) ?_
        refine J_bipush (v := nI 48) dX2_putNumber_27 (by decide) ?_
        refine K_isub (v := nI ((10 * (numA t i j) + (t (i + j))) - 48)) dX2_putNumber_29 (nI_sub (by omega)) ?_
        refine J_istore dX2_putNumber_30 (by decide) rfl ?_
        refine J_iinc (v := nI (i + j + 1)) dX2_putNumber_32 rfl (nI_succ _).symm (by decide) rfl ?_
        refine J_goto (tgt := 6) dX2_putNumber_35 (by decide) ?_
        exact ih (j + 1) (by omega) (by omega)
  refine J_iconst (v := nI 0) dX2_putNumber_0 (by decide) ?_
  refine J_istore dX2_putNumber_1 (by decide) rfl ?_
  refine J_iload_n dX2_putNumber_3 rfl rfl ?_
  refine J_istore dX2_putNumber_4 (by decide) rfl ?_
  exact loop (g + 1) 0 (by omega) (by omega)

theorem c_X2_match {w : Wd} {c : Nat} {t : Nat → Nat} {n p : Nat} {e : Bool} {cm : Nat} {x1 x2 : Int32} (hD : RepD w c t n p e cm x1 x2) {k s : Nat} (hk : k < 9) (hs : s ≤ n) : MC 11 mX2_match 0 0 [.ref c, .ref (20 + k), .int (nI s)] w (RP (fun v w' => v = some (.int (mtA (mtc t n (FM k) s []))) ∧ Fr w w' c (c + 1) ∧ ∃ y1 y2, RepD w' c t n p e cm y1 y2 ∧ ((mtc t n (FM k) s []).1 = true → numsOk (mtc t n (FM k) s []).2.2 y1 y2))) := by
  obtain ⟨f, dO, dA, dn, hf⟩ := id hD
  obtain ⟨hl1, hl2⟩ := FM_len k hk
  refine MC_j pnX2 rfl rfl rfl (Or.inr (fun E w h => RP_no E w h)) ?_
  show J 11 mX2_match 0 [some (.ref c), some (.ref (20 + k)), some (.int (nI s)), none, none, none, none, none] [] w 0 0 _
  have loop : ∀ m i q ns nl w1 y1 y2 o6 o7, nl = ns.length → (FM k).length < m + i → i ≤ (FM k).length → mtc t n ((FM k).drop i) q ns = (mtc t n (FM k) s []) → q ≤ n → ns.length + cntD ((FM k).drop i) ≤ 2 → Fr w w1 c (c + 1) → RepD w1 c t n p e cm y1 y2 → numsOk ns y1 y2 → J 11 mX2_match 8 [some (.ref c), some (.ref (20 + k)), some (.int (nI s)), some (.int (nI q)), some (.int (nI nl)), some (.int (nI i)), o6, o7] [] w1 0 0 (RP (fun v w' => v = some (.int (mtA (mtc t n (FM k) s []))) ∧ Fr w w' c (c + 1) ∧ ∃ y1 y2, RepD w' c t n p e cm y1 y2 ∧ ((mtc t n (FM k) s []).1 = true → numsOk (mtc t n (FM k) s []).2.2 y1 y2))) := by
    intro m
    induction m with
    | zero => intros; omega
    | succ m ih =>
      intro i q ns nl w1 y1 y2 o6 o7 hnl q1 q2 hm hq hcd hFr hD1 hno
      obtain ⟨f, dO, dA, dn, hf⟩ := id hD1
      refine J_iload dX2_match_8 rfl ?_
      refine J_aload_n dX2_match_10 rfl rfl ?_
      refine K_callV dX2_match_11 YJ0_length_8abf5 kX2_70 (Rc_st (by omega)) (c_length (by omega)) rfl rfl (Nat.le_of_ble_eq_true rfl) (by decide) ?_
      refine J_icmp_ge (tgt := 127) dX2_match_14 (by decide) (fun h14 => ?_) (fun h14 => ?_)
      · skip
        have h14 := (nI_leI (by omega) (by omega)).mp h14
        have ei : i = (FM k).length := by omega
        refine J_iload_n dX2_match_127 rfl rfl ?_
        exact J_ireturn dX2_match_128 rfl rfl (RP_i ⟨by rw [← hm, ei, List.drop_length]; rfl, hFr, _, _, hD1, fun _ => by rw [← hm, ei, List.drop_length]; exact hno⟩)
      · skip
        have h14 := mt (nI_leI (by omega) (by omega)).mpr h14
        have hdr := drop_at (l := FM k) (i := i) (by omega)
        have hch := (FM_ch k hk i (by omega)).2
        refine J_aload_n dX2_match_17 rfl rfl ?_
        refine J_iload dX2_match_18 rfl ?_
        refine K_callV dX2_match_20 YJ0_charAt_5068e kX2_76 (Rc_st (by omega)) (c_charAt (by omega) (by omega)) rfl rfl (Nat.le_of_ble_eq_true rfl) (by decide) ?_
        rw [(FM_ch k hk i (by omega)).1]
        refine J_istore dX2_match_23 (by decide) rfl ?_
        refine J_iload dX2_match_25 rfl ?_
        refine J_bipush (v := nI 49) dX2_match_27 (by decide) ?_
        refine J_icmp_eq (tgt := 39) dX2_match_29 (by decide) (fun h29 => ?_) (fun h29 => ?_)
        · skip
          have h29 := (nI_eq (by omega) (by omega)).mp h29
          refine J_aload_n dX2_match_39 rfl rfl ?_
          refine J_iload_n dX2_match_40 rfl rfl ?_
          refine K_callV dX2_match_41 YX2_isDigit kX2_80 (rc_of dO rfl) (c_X2_isDigit hD1 (by omega)) rfl rfl (Nat.le_of_ble_eq_true rfl) (by decide) ?_
          refine J_if_ne (tgt := 51) dX2_match_44 (by decide) (fun h44 => ?_) (fun h44 => ?_)
          · skip
            have e44 : isD t n q = true := b2i_ne.mp h44
            refine J_iload dX2_match_51 rfl ?_
            refine J_bipush (v := nI 50) dX2_match_53 (by decide) ?_
            refine J_icmp_ne (tgt := 72) dX2_match_55 (by decide) (fun h55 => ?_) (fun h55 => ?_)
            · skip
              have h55 := mt (nI_eq (by omega) (by omega)).mpr h55
              refine J_iconst (v := nI 1) dX2_match_72 (by decide) ?_
              refine J_istore dX2_match_73 (by decide) rfl ?_
              refine J_aload_n dX2_match_75 rfl rfl ?_
              refine J_iload dX2_match_76 rfl ?_
              refine J_iload_n dX2_match_78 rfl rfl ?_
              refine J_iload dX2_match_79 rfl ?_
              refine K_callVp dX2_match_81 YX2_putNumber kX2_83 (rc_of dO rfl) (c_X2_putNumber hD1 (a := nl) (i := q) (g := 1) (by omega) (by omega) (by omega) (fun j hj => by
                  have c : j = 0 := by omega
                  subst c
                  exact e44)) rfl rfl (Nat.le_of_ble_eq_true rfl) (by decide) (fun v81 w81 q81 => ?_)
              obtain ⟨rfl, hF81, hD81⟩ := q81
              refine J_iinc (v := nI (nl + 1)) dX2_match_84 rfl (nI_succ _).symm (by decide) rfl ?_
              refine J_iload_n dX2_match_87 rfl rfl ?_
              refine J_iload dX2_match_88 rfl ?_
              refine K_iadd (v := nI (q + 1)) dX2_match_90 (nI_add _ _) ?_
              refine J_istore_n dX2_match_91 rfl (by decide) rfl ?_
              refine J_goto (tgt := 121) dX2_match_92 (by decide) ?_
              refine J_iinc (v := nI (i + 1)) dX2_match_121 rfl (nI_succ _).symm (by decide) rfl ?_
              refine J_goto (tgt := 8) dX2_match_124 (by decide) ?_
              have edg : dgs t n ((FM k).getD i 0) q = 1 := by unfold dgs; exact if_neg (by omega)
              have em := hm
              rw [hdr, mt_dg (by omega) e44, edg] at em
              exact ih (i + 1) _ _ _ _ _ _ _ _ (by simp; omega) (by omega) (by omega) em (by have := dgs_n (c := (FM k).getD i 0) e44; omega) (by rw [hdr, cntD_d (by omega)] at hcd; simp; omega) (hFr.tr hF81 (by omega) (by omega)) (hnl ▸ hD81) (numsOk_app hno (by rw [hdr, cntD_d (by omega)] at hcd; omega))
            · skip
              have h55 := (nI_eq (by omega) (by omega)).mp h55
              omega
          · skip
            have e44 : isD t n q = false := b2i_eq.mp h44
            refine J_iload_n dX2_match_47 rfl rfl ?_
            refine J_iconst (v := (-1)) dX2_match_48 (by decide) ?_
            refine K_ixor dX2_match_49 rfl ?_
            exact J_ireturn dX2_match_50 rfl rfl (RP_i ⟨by rw [← hm, hdr, mt_nd (by omega) e44]; rfl, hFr, _, _, hD1, fun z => by rw [← hm, hdr, mt_nd (by omega) e44] at z; cases z⟩)
        · skip
          have h29 := mt (nI_eq (by omega) (by omega)).mpr h29
          refine J_iload dX2_match_32 rfl ?_
          refine J_bipush (v := nI 50) dX2_match_34 (by decide) ?_
          refine J_icmp_ne (tgt := 95) dX2_match_36 (by decide) (fun h36 => ?_) (fun h36 => ?_)
          · skip
            have h36 := mt (nI_eq (by omega) (by omega)).mpr h36
            refine J_iload_n dX2_match_95 rfl rfl ?_
            refine J_aload_n dX2_match_96 rfl rfl ?_
            refine J_getfield dX2_match_97 fX2_15 dO rfl ?_
            refine J_icmp_ge (tgt := 114) dX2_match_100 (by decide) (fun h100 => ?_) (fun h100 => ?_)
            · skip
              have h100 := (nI_leI (by omega) (by omega)).mp h100
              refine J_iload_n dX2_match_114 rfl rfl ?_
              refine J_iconst (v := (-1)) dX2_match_115 (by decide) ?_
              refine K_ixor dX2_match_116 rfl ?_
              exact J_ireturn dX2_match_117 rfl rfl (RP_i ⟨by rw [← hm, hdr, mt_no (by omega) (by omega)]; rfl, hFr, _, _, hD1, fun z => by rw [← hm, hdr, mt_no (by omega) (by omega)] at z; cases z⟩)
            · skip
              have h100 := mt (nI_leI (by omega) (by omega)).mpr h100
              refine J_aload_n dX2_match_103 rfl rfl ?_
              refine J_getfield dX2_match_104 fX2_9 dO rfl ?_
              refine J_iload_n dX2_match_107 rfl rfl ?_
              have q108a := (hf q (by omega)).2
              refine K_cald (v := nI (t q)) dX2_match_108 dA (by omega) (by decide) (hf _ (by omega)).1 ?_
              refine J_iload dX2_match_109 rfl ?_
              refine J_icmp_eq (tgt := 118) dX2_match_111 (by decide) (fun h111 => ?_) (fun h111 => ?_)
              · skip
                have h111 := (nI_eq (by omega) (by omega)).mp h111
                refine J_iinc (v := nI (q + 1)) dX2_match_118 rfl (nI_succ _).symm (by decide) rfl ?_
                refine J_iinc (v := nI (i + 1)) dX2_match_121 rfl (nI_succ _).symm (by decide) rfl ?_
                refine J_goto (tgt := 8) dX2_match_124 (by decide) ?_
                have em := hm
                rw [hdr, mt_yes (by omega) ⟨by omega, by omega⟩] at em
                exact ih (i + 1) _ _ _ _ _ _ _ _ hnl (by omega) (by omega) em (by omega) (by rw [hdr, cntD_c (by omega)] at hcd; omega) hFr hD1 hno
              · skip
                have h111 := mt (nI_eq (by omega) (by omega)).mpr h111
                refine J_iload_n dX2_match_114 rfl rfl ?_
                refine J_iconst (v := (-1)) dX2_match_115 (by decide) ?_
                refine K_ixor dX2_match_116 rfl ?_
                exact J_ireturn dX2_match_117 rfl rfl (RP_i ⟨by rw [← hm, hdr, mt_no (by omega) (by omega)]; rfl, hFr, _, _, hD1, fun z => by rw [← hm, hdr, mt_no (by omega) (by omega)] at z; cases z⟩)
          · skip
            have h36 := (nI_eq (by omega) (by omega)).mp h36
            refine J_aload_n dX2_match_39 rfl rfl ?_
            refine J_iload_n dX2_match_40 rfl rfl ?_
            refine K_callV dX2_match_41 YX2_isDigit kX2_80 (rc_of dO rfl) (c_X2_isDigit hD1 (by omega)) rfl rfl (Nat.le_of_ble_eq_true rfl) (by decide) ?_
            refine J_if_ne (tgt := 51) dX2_match_44 (by decide) (fun h44 => ?_) (fun h44 => ?_)
            · skip
              have e44 : isD t n q = true := b2i_ne.mp h44
              refine J_iload dX2_match_51 rfl ?_
              refine J_bipush (v := nI 50) dX2_match_53 (by decide) ?_
              refine J_icmp_ne (tgt := 72) dX2_match_55 (by decide) (fun h55 => ?_) (fun h55 => ?_)
              · skip
                have h55 := mt (nI_eq (by omega) (by omega)).mpr h55
                omega
              · skip
                have h55 := (nI_eq (by omega) (by omega)).mp h55
                refine J_aload_n dX2_match_58 rfl rfl ?_
                refine J_iload_n dX2_match_59 rfl rfl ?_
                refine J_iconst (v := nI 1) dX2_match_60 (by decide) ?_
                refine K_iadd (v := nI (q + 1)) dX2_match_61 (nI_add _ _) ?_
                refine K_callV dX2_match_62 YX2_isDigit kX2_80 (rc_of dO rfl) (c_X2_isDigit hD1 (by omega)) rfl rfl (Nat.le_of_ble_eq_true rfl) (by decide) ?_
                refine J_if_eq (tgt := 72) dX2_match_65 (by decide) (fun h65 => ?_) (fun h65 => ?_)
                · skip
                  have e65 : isD t n (q + 1) = false := b2i_eq.mp h65
                  refine J_iconst (v := nI 1) dX2_match_72 (by decide) ?_
                  refine J_istore dX2_match_73 (by decide) rfl ?_
                  refine J_aload_n dX2_match_75 rfl rfl ?_
                  refine J_iload dX2_match_76 rfl ?_
                  refine J_iload_n dX2_match_78 rfl rfl ?_
                  refine J_iload dX2_match_79 rfl ?_
                  refine K_callVp dX2_match_81 YX2_putNumber kX2_83 (rc_of dO rfl) (c_X2_putNumber hD1 (a := nl) (i := q) (g := 1) (by omega) (by omega) (by omega) (fun j hj => by
                      have c : j = 0 := by omega
                      subst c
                      exact e44)) rfl rfl (Nat.le_of_ble_eq_true rfl) (by decide) (fun v81 w81 q81 => ?_)
                  obtain ⟨rfl, hF81, hD81⟩ := q81
                  refine J_iinc (v := nI (nl + 1)) dX2_match_84 rfl (nI_succ _).symm (by decide) rfl ?_
                  refine J_iload_n dX2_match_87 rfl rfl ?_
                  refine J_iload dX2_match_88 rfl ?_
                  refine K_iadd (v := nI (q + 1)) dX2_match_90 (nI_add _ _) ?_
                  refine J_istore_n dX2_match_91 rfl (by decide) rfl ?_
                  refine J_goto (tgt := 121) dX2_match_92 (by decide) ?_
                  refine J_iinc (v := nI (i + 1)) dX2_match_121 rfl (nI_succ _).symm (by decide) rfl ?_
                  refine J_goto (tgt := 8) dX2_match_124 (by decide) ?_
                  have edg : dgs t n ((FM k).getD i 0) q = 1 := by unfold dgs; exact if_neg (fun z => by rw [e65] at z; cases z.2)
                  have em := hm
                  rw [hdr, mt_dg (by omega) e44, edg] at em
                  exact ih (i + 1) _ _ _ _ _ _ _ _ (by simp; omega) (by omega) (by omega) em (by have := dgs_n (c := (FM k).getD i 0) e44; omega) (by rw [hdr, cntD_d (by omega)] at hcd; simp; omega) (hFr.tr hF81 (by omega) (by omega)) (hnl ▸ hD81) (numsOk_app hno (by rw [hdr, cntD_d (by omega)] at hcd; omega))
                · skip
                  have e65 : isD t n (q + 1) = true := b2i_ne.mp h65
                  refine J_iconst (v := nI 2) dX2_match_68 (by decide) ?_
                  refine J_goto (tgt := 73) dX2_match_69 (by decide) ?_
                  refine J_istore dX2_match_73 (by decide) rfl ?_
                  refine J_aload_n dX2_match_75 rfl rfl ?_
                  refine J_iload dX2_match_76 rfl ?_
                  refine J_iload_n dX2_match_78 rfl rfl ?_
                  refine J_iload dX2_match_79 rfl ?_
                  refine K_callVp dX2_match_81 YX2_putNumber kX2_83 (rc_of dO rfl) (c_X2_putNumber hD1 (a := nl) (i := q) (g := 2) (by omega) (by omega) (by omega) (fun j hj => by
                      have c : j = 0 ∨ j = 1 := by omega
                      rcases c with rfl | rfl
                      · exact e44
                      · exact e65)) rfl rfl (Nat.le_of_ble_eq_true rfl) (by decide) (fun v81 w81 q81 => ?_)
                  obtain ⟨rfl, hF81, hD81⟩ := q81
                  refine J_iinc (v := nI (nl + 1)) dX2_match_84 rfl (nI_succ _).symm (by decide) rfl ?_
                  refine J_iload_n dX2_match_87 rfl rfl ?_
                  refine J_iload dX2_match_88 rfl ?_
                  refine K_iadd (v := nI (q + 2)) dX2_match_90 (nI_add _ _) ?_
                  refine J_istore_n dX2_match_91 rfl (by decide) rfl ?_
                  refine J_goto (tgt := 121) dX2_match_92 (by decide) ?_
                  refine J_iinc (v := nI (i + 1)) dX2_match_121 rfl (nI_succ _).symm (by decide) rfl ?_
                  refine J_goto (tgt := 8) dX2_match_124 (by decide) ?_
                  have edg : dgs t n ((FM k).getD i 0) q = 2 := by unfold dgs; exact if_pos ⟨by omega, e65⟩
                  have em := hm
                  rw [hdr, mt_dg (by omega) e44, edg] at em
                  exact ih (i + 1) _ _ _ _ _ _ _ _ (by simp; omega) (by omega) (by omega) em (by have := dgs_n (c := (FM k).getD i 0) e44; omega) (by rw [hdr, cntD_d (by omega)] at hcd; simp; omega) (hFr.tr hF81 (by omega) (by omega)) (hnl ▸ hD81) (numsOk_app hno (by rw [hdr, cntD_d (by omega)] at hcd; omega))
            · skip
              have e44 : isD t n q = false := b2i_eq.mp h44
              refine J_iload_n dX2_match_47 rfl rfl ?_
              refine J_iconst (v := (-1)) dX2_match_48 (by decide) ?_
              refine K_ixor dX2_match_49 rfl ?_
              exact J_ireturn dX2_match_50 rfl rfl (RP_i ⟨by rw [← hm, hdr, mt_nd (by omega) e44]; rfl, hFr, _, _, hD1, fun z => by rw [← hm, hdr, mt_nd (by omega) e44] at z; cases z⟩)
  refine J_iload_n dX2_match_0 rfl rfl ?_
  refine J_istore_n dX2_match_1 rfl (by decide) rfl ?_
  refine J_iconst (v := nI 0) dX2_match_2 (by decide) ?_
  refine J_istore dX2_match_3 (by decide) rfl ?_
  refine J_iconst (v := nI 0) dX2_match_5 (by decide) ?_
  refine J_istore dX2_match_6 (by decide) rfl ?_
  exact loop ((FM k).length + 1) 0 s [] 0 w x1 x2 none none rfl (by omega) (by omega) rfl hs (by have := FM_cnt k hk; simpa using this) (Fr.rf _ _ _) hD ⟨fun z => by simp at z, fun z => by simp at z⟩

end JREAD

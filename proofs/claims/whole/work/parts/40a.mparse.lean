/-! THE MODEL: the reader of commands -/
section JMPARSE
def hvv (t : Nat → Nat) (n i : Nat) : Int32 := if i < n then nI (t i) else -1
def TXT (f6 : Nat → Int32) (t : Nat → Nat) (n : Nat) : Prop := n ≤ 60 ∧ ∀ j, j < n → f6 j = nI (t j) ∧ t j < 65536
theorem hvv_eq {f6 : Nat → Int32} {t : Nat → Nat} {n i c : Nat} (h : TXT f6 t n) (hc : c < 65536) : hvv t n i = nI c ↔ i < n ∧ t i = c := by
  unfold hvv
  by_cases e : i < n
  · rw [if_pos e]
    have := (h.2 i e).2
    exact ⟨fun q => ⟨e, nI_inj (by omega) (by omega) q⟩, fun q => by rw [q.2]⟩
  · rw [if_neg e]
    exact ⟨fun q => absurd q.symm (nI_ne_m1 (by omega)), fun q => absurd q.1 e⟩
theorem hvv_dig {f6 : Nat → Int32} {t : Nat → Nat} {n i : Nat} (h : TXT f6 t n) : decide (nI 48 ≤ hvv t n i ∧ hvv t n i ≤ nI 57) = isD t n i := by
  unfold hvv isD
  apply decide_eq_decide.mpr
  by_cases e : i < n
  · rw [if_pos e]
    have := (h.2 i e).2
    rw [nI_leI (by omega) (by omega), nI_leI (by omega) (by omega)]
    exact ⟨fun q => ⟨e, q.1, q.2⟩, fun q => ⟨q.2.1, q.2.2⟩⟩
  · rw [if_neg e]
    exact ⟨fun q => absurd q.1 (by decide), fun q => absurd q.1 e⟩
theorem hvv_d {f6 : Nat → Int32} {t : Nat → Nat} {n i : Nat} (h : TXT f6 t n) (hd : isD t n i = true) : hvv t n i = nI (t i) ∧ 48 ≤ t i ∧ t i ≤ 57 := by
  have := isD_t.mp hd
  exact ⟨if_pos this.1, this.2⟩
def WN (i : Nat) : List Nat := ([[98, 108, 111, 99, 107, 32], [99, 97, 116, 32], [99, 117, 115, 104, 105, 111, 110, 32], [108, 105, 110, 107, 32], [45], [116, 105, 99, 107, 32], [116, 114, 97, 105, 110, 32], [42], [103, 111, 97, 108, 32], [62], [104, 111, 108, 100, 32], [64], [114, 101, 115, 99, 117, 101, 32]] : List (List Nat)).getD (i - 9) []
theorem WN_len : ∀ i, i < 22 → 9 ≤ i → (txS i).length = (WN i).length := by decide +kernel
theorem WN_ch : ∀ i, i < 22 → 9 ≤ i → ∀ k, k < 9 → (txS i).getD k 0 = nI ((WN i).getD k 0) ∧ (WN i).getD k 0 < 128 := by decide +kernel
theorem WN_dg : ∀ i, i < 22 → ∀ c ∈ WN i, ¬ (c = 49 ∨ c = 50) := by decide +kernel
def sayP (t : Nat → Nat) (n : Nat) : List Nat → Nat → Bool × Nat
  | [], p => (true, p)
  | c :: cs, p => if p < n ∧ t p = c then sayP t n cs (p + 1) else (false, p)
theorem sayP_y {t : Nat → Nat} {n c p : Nat} {cs : List Nat} (h : p < n ∧ t p = c) : sayP t n (c :: cs) p = sayP t n cs (p + 1) := if_pos h
theorem sayP_n {t : Nat → Nat} {n c p : Nat} {cs : List Nat} (h : ¬ (p < n ∧ t p = c)) : sayP t n (c :: cs) p = (false, p) := if_neg h
theorem mtc_say {t : Nat → Nat} {n : Nat} (rest ns : List Nat) : ∀ (l : List Nat) (p : Nat), (∀ c ∈ l, ¬ (c = 49 ∨ c = 50)) → mtc t n (l ++ rest) p ns = if (sayP t n l p).1 = true then mtc t n rest (sayP t n l p).2 ns else (false, (sayP t n l p).2, ns) := by
  intro l
  induction l with
  | nil => intro p _; rfl
  | cons c cs ih =>
    intro p h
    have hc := h c List.mem_cons_self
    rw [List.cons_append]
    by_cases e : p < n ∧ t p = c
    · rw [mt_yes hc e, sayP_y e]
      exact ih (p + 1) fun d hd => h d (List.mem_cons_of_mem _ hd)
    · rw [mt_no hc e, sayP_n e]
      rfl
theorem sayP_le {t : Nat → Nat} {n : Nat} : ∀ (l : List Nat) (p : Nat), p ≤ n → p ≤ (sayP t n l p).2 ∧ (sayP t n l p).2 ≤ n := by
  intro l
  induction l with
  | nil => intro p h; exact ⟨Nat.le_refl _, h⟩
  | cons c cs ih =>
    intro p h
    by_cases e : p < n ∧ t p = c
    · rw [sayP_y e]
      have := ih (p + 1) (by omega)
      omega
    · rw [sayP_n e]
      exact ⟨Nat.le_refl _, h⟩
def PWm (w : Wd) (m : Nat) (x f6 f7 : Nat → Int32) : Prop := w.1 m = mCell m x ∧ w.1 (m + 6) = .inl (0, 60, .inl f6) ∧ w.1 (m + 7) = .inl (0, 180, .inl f7)
/-- the reading: the object and what was told change alone -/
def F7 (w w' : Wd) (m : Nat) : Prop := (∀ b : Nat, (b ≠ m ∧ b ≠ m + 7) → w'.1 b = w.1 b) ∧ w'.2.1 = w.2.1
theorem F7.rf (w : Wd) (m : Nat) : F7 w w m := ⟨fun _ _ => rfl, rfl⟩
theorem F7.up {w w1 w2 : Wd} {m a : Nat} {x : Ce} (h : F7 w w1 m) (u : Up w1 w2 a x) (k : a = m ∨ a = m + 7) (_ : 0 ≤ 0) : F7 w w2 m := ⟨fun b hb => (u.2.1 b (by omega)).trans (h.1 b hb), (congrArg Prod.fst u.2.2).trans h.2⟩
theorem F7.tr {w w1 w2 : Wd} {m : Nat} (h : F7 w w1 m) (k : F7 w1 w2 m) : F7 w w2 m := ⟨fun b hb => (k.1 b hb).trans (h.1 b hb), k.2.trans h.2⟩
theorem F7.fr {w w' : Wd} {m : Nat} (h : F7 w w' m) : Fr w w' m (m + 11) := ⟨fun b hb => h.1 b (by omega), h.2⟩
/-- the reader's numbers: place, length, count, fault -/
def PX (x : Nat → Int32) (p n c : Nat) (e : Bool) : Prop := x 18 = nI p ∧ x 19 = nI n ∧ x 20 = nI c ∧ x 21 = b2i e
def PK (x x' : Nat → Int32) : Prop := ∀ j, j ≠ 18 → j ≠ 20 → j ≠ 21 → x' j = x j
/-- outside the row of the command c nothing changes in what was told -/
def TK (f7 f7' : Nat → Int32) (c : Nat) : Prop := ∀ j, j < 3 * c ∨ 3 * c + 3 ≤ j → f7' j = f7 j
theorem c_X9_here {w : Wd} {m : Nat} {x f6 f7 : Nat → Int32} {t : Nat → Nat} {n p c : Nat} {e : Bool} (hW : PWm w m x f6 f7) (hT : TXT f6 t n) (hx : PX x p n c e) (hp : p ≤ n) {d : Nat} (hd : d < 1000) : MC 2 mX9_here 0 0 [.ref m, .int (nI d)] w (RI (.int (hvv t n (p + d))) w) := by
  obtain ⟨mO, m6, m7⟩ := id hW
  obtain ⟨h18, h19, h20, h21⟩ := id hx
  have hn60 := hT.1
  refine MC_j pnX9 rfl rfl rfl (Or.inr (fun E w h => by cases h.1)) ?_
  show J 2 mX9_here 0 [some (.ref m), some (.int (nI d))] [] w 0 0 _
  refine J_aload_n dX9_here_0 rfl rfl ?_
  refine J_getfield dX9_here_1 fX9_202 mO rfl ?_
  rw [h18]
  refine J_iload_n dX9_here_4 rfl rfl ?_
  refine K_iadd (v := nI (p + d)) dX9_here_5 (nI_add _ _) ?_
  refine J_aload_n dX9_here_6 rfl rfl ?_
  refine J_getfield dX9_here_7 fX9_205 mO rfl ?_
  rw [h19]
  refine J_icmp_ge (tgt := 27) dX9_here_10 (by decide) (fun h10 => ?_) (fun h10 => ?_)
  · skip
    have h10 := (nI_leI (by omega) (by omega)).mp h10
    refine J_iconst (v := (-1)) dX9_here_27 (by decide) ?_
    exact J_ireturn dX9_here_28 rfl rfl ⟨by rw [show hvv t n (p + d) = -1 from if_neg (by omega)], rfl⟩
  · skip
    have h10 := mt (nI_leI (by omega) (by omega)).mpr h10
    refine J_aload_n dX9_here_13 rfl rfl ?_
    refine J_getfield dX9_here_14 fX9_25 mO rfl ?_
    refine J_aload_n dX9_here_17 rfl rfl ?_
    refine J_getfield dX9_here_18 fX9_202 mO rfl ?_
    rw [h18]
    refine J_iload_n dX9_here_21 rfl rfl ?_
    refine K_iadd (v := nI (p + d)) dX9_here_22 (nI_add _ _) ?_
    refine K_iald (v := nI (t (p + d))) dX9_here_23 m6 (by omega) (by decide) (hT.2 _ (by omega)).1 ?_
    refine J_goto (tgt := 28) dX9_here_24 (by decide) ?_
    exact J_ireturn dX9_here_28 rfl rfl ⟨by rw [show hvv t n (p + d) = nI (t (p + d)) from if_pos (by omega)], rfl⟩

end JMPARSE

/-! THE TEXT OF COMMANDS, read -/
section JPARSE
def FM (k : Nat) : List Nat := ([[98, 108, 111, 99, 107, 32, 49], [99, 117, 115, 104, 105, 111, 110, 32, 49], [108, 105, 110, 107, 32, 50, 45, 50], [116, 114, 97, 105, 110, 32, 50, 42, 49], [103, 111, 97, 108, 32, 49, 62, 50], [99, 97, 116, 32, 50], [104, 111, 108, 100, 32, 49, 64, 50], [114, 101, 115, 99, 117, 101, 32, 49], [116, 105, 99, 107, 32, 50]] : List (List Nat)).getD k []
theorem FM_len : ∀ k, k < 9 → (txS k).length = (FM k).length ∧ (FM k).length ≤ 9 := by decide +kernel
theorem FM_ch : ∀ k, k < 9 → ∀ i, i < 9 → (txS k).getD i 0 = nI ((FM k).getD i 0) ∧ (FM k).getD i 0 < 128 := by decide +kernel
variable (t : Nat → Nat) (n : Nat)
def isD (i : Nat) : Bool := decide (i < n ∧ 48 ≤ t i ∧ t i ≤ 57)
def dgs (c i : Nat) : Nat := if c = 50 ∧ isD t n (i + 1) = true then 2 else 1
def numA (i : Nat) : Nat → Nat
  | 0 => 0
  | j + 1 => 10 * numA i j + t (i + j) - 48
/-- a form, matched from i on: whether it fits, how far, its numbers -/
def mtc : List Nat → Nat → List Nat → Bool × Nat × List Nat
  | [], i, ns => (true, i, ns)
  | c :: cs, i, ns => if c = 49 ∨ c = 50 then (if isD t n i = true then mtc cs (i + dgs t n c i) (ns ++ [numA t i (dgs t n c i)]) else (false, i, ns)) else if i < n ∧ t i = c then mtc cs (i + 1) ns else (false, i, ns)
variable {t : Nat → Nat} {n : Nat}
theorem dgs_12 (c i : Nat) : dgs t n c i = 1 ∨ dgs t n c i = 2 := by unfold dgs; split <;> omega
theorem isD_t {i : Nat} : isD t n i = true ↔ i < n ∧ 48 ≤ t i ∧ t i ≤ 57 := by unfold isD; exact decide_eq_true_iff
theorem dgs_n {c i : Nat} (h : isD t n i = true) : i + dgs t n c i ≤ n := by
  have := (isD_t.mp h).1
  unfold dgs
  split
  · rename_i q
    have := (isD_t.mp q.2).1
    omega
  · omega
theorem mt_ge : ∀ (l : List Nat) (i : Nat) (ns : List Nat), i ≤ (mtc t n l i ns).2.1 := by
  intro l
  induction l with
  | nil => intro i ns; exact Nat.le_refl _
  | cons c cs ih =>
    intro i ns
    unfold mtc
    split
    · split
      · have := ih (i + dgs t n c i) (ns ++ [numA t i (dgs t n c i)])
        omega
      · exact Nat.le_refl _
    · split
      · have := ih (i + 1) ns
        omega
      · exact Nat.le_refl _
theorem mt_le : ∀ (l : List Nat) (i : Nat) (ns : List Nat), i ≤ n → (mtc t n l i ns).2.1 ≤ n := by
  intro l
  induction l with
  | nil => intro i ns h; exact h
  | cons c cs ih =>
    intro i ns h
    unfold mtc
    split
    · split
      · rename_i q
        exact ih _ _ (dgs_n q)
      · exact h
    · split
      · rename_i q
        exact ih _ _ (by omega)
      · exact h
/-- a form that fits takes at least a character for each of its own -/
theorem mt_len : ∀ (l : List Nat) (i : Nat) (ns : List Nat), (mtc t n l i ns).1 = true → i + l.length ≤ (mtc t n l i ns).2.1 := by
  intro l
  induction l with
  | nil => intro i ns _; exact Nat.le_refl _
  | cons c cs ih =>
    intro i ns h
    unfold mtc at h ⊢
    split
    · rename_i q
      rw [if_pos q] at h
      split
      · rename_i q2
        rw [if_pos q2] at h
        have := ih _ _ h
        have := dgs_12 (t := t) (n := n) c i
        simp only [List.length_cons]
        omega
      · rename_i q2
        rw [if_neg q2] at h
        cases h
    · rename_i q
      rw [if_neg q] at h
      split
      · rename_i q2
        rw [if_pos q2] at h
        have := ih _ _ h
        simp only [List.length_cons]
        omega
      · rename_i q2
        rw [if_neg q2] at h
        cases h
theorem mt_no {c : Nat} {cs ns : List Nat} {i : Nat} (hc : ¬ (c = 49 ∨ c = 50)) (h : ¬ (i < n ∧ t i = c)) : mtc t n (c :: cs) i ns = (false, i, ns) := by
  unfold mtc
  rw [if_neg hc, if_neg h]
theorem mt_yes {c : Nat} {cs ns : List Nat} {i : Nat} (hc : ¬ (c = 49 ∨ c = 50)) (h : i < n ∧ t i = c) : mtc t n (c :: cs) i ns = mtc t n cs (i + 1) ns := by
  show (if c = 49 ∨ c = 50 then _ else if i < n ∧ t i = c then mtc t n cs (i + 1) ns else (false, i, ns)) = _
  rw [if_neg hc, if_pos h]
theorem mt_dg {c : Nat} {cs ns : List Nat} {i : Nat} (hc : c = 49 ∨ c = 50) (h : isD t n i = true) : mtc t n (c :: cs) i ns = mtc t n cs (i + dgs t n c i) (ns ++ [numA t i (dgs t n c i)]) := by
  show (if c = 49 ∨ c = 50 then (if isD t n i = true then mtc t n cs (i + dgs t n c i) (ns ++ [numA t i (dgs t n c i)]) else (false, i, ns)) else _) = _
  rw [if_pos hc, if_pos h]
theorem mt_nd {c : Nat} {cs ns : List Nat} {i : Nat} (hc : c = 49 ∨ c = 50) (h : isD t n i = false) : mtc t n (c :: cs) i ns = (false, i, ns) := by
  show (if c = 49 ∨ c = 50 then (if isD t n i = true then _ else (false, i, ns)) else _) = _
  rw [if_pos hc, if_neg (by rw [h]; decide)]
variable (t n) in
/-- the form whose beginning decides -/
def wh (p : Nat) : Option Nat :=
  if ¬ p < n then none else if t p = 98 then some 0 else if t p = 99 then (if p + 1 < n ∧ t (p + 1) = 97 then some 5 else some 1) else if t p = 108 then some 2
  else if t p = 116 then (if p + 1 < n ∧ t (p + 1) = 105 then some 8 else some 3) else if t p = 103 then some 4 else if t p = 104 then some 6 else if t p = 114 then some 7 else none
theorem wh_A {p : Nat} (h : wh t n p = none) : ∀ k, k < 9 → mtc t n (FM k) p [] = (false, p, []) := by
  intro k hk
  have key : ¬ (p < n ∧ (t p = 98 ∨ t p = 99 ∨ t p = 108 ∨ t p = 116 ∨ t p = 103 ∨ t p = 104 ∨ t p = 114)) := by
    rintro ⟨h1, h2⟩
    unfold wh at h
    rw [if_neg (by omega)] at h
    rcases h2 with q | q | q | q | q | q | q <;> (rw [q] at h; revert h; simp) <;> (split <;> simp)
  have c : k = 0 ∨ k = 1 ∨ k = 2 ∨ k = 3 ∨ k = 4 ∨ k = 5 ∨ k = 6 ∨ k = 7 ∨ k = 8 := by omega
  rcases c with rfl | rfl | rfl | rfl | rfl | rfl | rfl | rfl | rfl <;> exact mt_no (by decide) (fun q => key ⟨q.1, by omega⟩)
theorem wh_B {p k : Nat} (h : wh t n p = some k) : k < 9 ∧ ∀ j, j < 9 → j ≠ k → ∃ q, mtc t n (FM j) p [] = (false, q, []) ∧ q ≤ (mtc t n (FM k) p []).2.1 := by
  have f0 : ∀ j c cs, FM j = c :: cs → ¬ (c = 49 ∨ c = 50) → ¬ (p < n ∧ t p = c) → ∃ q, mtc t n (FM j) p [] = (false, q, []) ∧ q ≤ (mtc t n (FM k) p []).2.1 := by
    intro j c cs e hc hn
    exact ⟨p, by rw [e]; exact mt_no hc hn, mt_ge _ _ _⟩
  have f1 : ∀ j c c2 cs c3 cs3, FM j = c :: c2 :: cs → FM k = c :: c3 :: cs3 → ¬ (c = 49 ∨ c = 50) → ¬ (c2 = 49 ∨ c2 = 50) → (p < n ∧ t p = c) → ¬ (p + 1 < n ∧ t (p + 1) = c2) → ∃ q, mtc t n (FM j) p [] = (false, q, []) ∧ q ≤ (mtc t n (FM k) p []).2.1 := by
    intro j c c2 cs c3 cs3 e e2 hc hc2 hy hn
    refine ⟨p + 1, by rw [e, mt_yes hc hy]; exact mt_no hc2 hn, ?_⟩
    rw [e2, mt_yes hc hy]
    exact mt_ge _ _ _
  have all : ∀ j, j < 9 → j = 0 ∨ j = 1 ∨ j = 2 ∨ j = 3 ∨ j = 4 ∨ j = 5 ∨ j = 6 ∨ j = 7 ∨ j = 8 := by omega
  unfold wh at h
  split at h
  · cases h
  · rename_i hp
    have hp : p < n := by omega
    have fin : ∀ c, t p = c → (∀ j, j < 9 → j ≠ k → (FM j).getD 0 0 ≠ c) → k < 9 → k < 9 ∧ ∀ j, j < 9 → j ≠ k → ∃ q, mtc t n (FM j) p [] = (false, q, []) ∧ q ≤ (mtc t n (FM k) p []).2.1 := by
      intro c hc hne hk
      refine ⟨hk, fun j hj hjk => ?_⟩
      have h1 := hne j hj hjk
      rcases all j hj with rfl | rfl | rfl | rfl | rfl | rfl | rfl | rfl | rfl <;> exact f0 _ _ _ rfl (by decide) (fun q => h1 (by rw [← hc, q.2]; rfl))
    have fin2 : ∀ c k2 c2 cs c3 cs3, t p = c → (∀ j, j < 9 → j ≠ k → j ≠ k2 → (FM j).getD 0 0 ≠ c) → k < 9 → FM k2 = c :: c2 :: cs → FM k = c :: c3 :: cs3 → ¬ (c = 49 ∨ c = 50) → ¬ (c2 = 49 ∨ c2 = 50) → ¬ (p + 1 < n ∧ t (p + 1) = c2) → k < 9 ∧ ∀ j, j < 9 → j ≠ k → ∃ q, mtc t n (FM j) p [] = (false, q, []) ∧ q ≤ (mtc t n (FM k) p []).2.1 := by
      intro c k2 c2 cs c3 cs3 hc hne hk e1 e2 n1 n2 hn
      refine ⟨hk, fun j hj hjk => ?_⟩
      by_cases ej : j = k2
      · subst ej
        exact f1 _ _ _ _ _ _ e1 e2 n1 n2 ⟨hp, hc⟩ hn
      · have h1 := hne j hj hjk ej
        rcases all j hj with rfl | rfl | rfl | rfl | rfl | rfl | rfl | rfl | rfl <;> exact f0 _ _ _ rfl (by decide) (fun q => h1 (by rw [← hc, q.2]; rfl))
    split at h
    · rename_i q; cases h; exact fin 98 q (by decide) (by decide)
    · split at h
      · rename_i q
        split at h
        · rename_i q2
          cases h
          exact fin2 99 1 117 _ _ _ q (by decide) (by decide) rfl rfl (by decide) (by decide) (by omega)
        · rename_i q2
          cases h
          exact fin2 99 5 97 _ _ _ q (by decide) (by decide) rfl rfl (by decide) (by decide) q2
      · split at h
        · rename_i q; cases h; exact fin 108 q (by decide) (by decide)
        · split at h
          · rename_i q
            split at h
            · rename_i q2
              cases h
              exact fin2 116 3 114 _ _ _ q (by decide) (by decide) rfl rfl (by decide) (by decide) (by omega)
            · rename_i q2
              cases h
              exact fin2 116 8 105 _ _ _ q (by decide) (by decide) rfl rfl (by decide) (by decide) q2
          · split at h
            · rename_i q; cases h; exact fin 103 q (by decide) (by decide)
            · split at h
              · rename_i q; cases h; exact fin 104 q (by decide) (by decide)
              · split at h
                · rename_i q; cases h; exact fin 114 q (by decide) (by decide)
                · cases h
variable (t n)
/-- the command that begins at p, or none; how far -/
def pOne (p : Nat) : Option (Nat × List Nat) × Nat := match wh t n p with
  | none => (none, p)
  | some k => if (mtc t n (FM k) p []).1 = true then (some (k, (mtc t n (FM k) p []).2.2), (mtc t n (FM k) p []).2.1) else (none, (mtc t n (FM k) p []).2.1)
/-- a command and what separates it: an error's place; or the command, the next place, whether the text has ended -/
def rdC (p : Nat) : Nat ⊕ ((Nat × List Nat) × Nat × Bool) := match pOne t n p with
  | (none, q) => .inl q
  | (some c, q) => if n ≤ q then .inr (c, q, true) else if t q = 59 then .inr (c, q + 1, false) else .inl q
def pAll : Nat → Nat → List (Nat × List Nat) × Option Nat
  | 0, p => ([], some p)
  | f + 1, p => match rdC t n p with
    | .inl q => ([], some q)
    | .inr (c, _, true) => ([c], none)
    | .inr (c, p', false) => (c :: (pAll f p').1, (pAll f p').2)
variable {t n}
theorem FM_ge : ∀ k, k < 9 → 5 ≤ (FM k).length := by decide +kernel
theorem pOne_some {p q : Nat} {c : Nat × List Nat} (h : pOne t n p = (some c, q)) : c.1 < 9 ∧ mtc t n (FM c.1) p [] = (true, q, c.2) ∧ p + 5 ≤ q ∧ wh t n p = some c.1 := by
  unfold pOne at h
  split at h
  · cases h
  · rename_i k hk
    split at h
    · rename_i q2
      cases h
      have h9 := (wh_B hk).1
      refine ⟨h9, ?_, ?_, hk⟩
      · show mtc t n (FM k) p [] = _
        rw [← q2]
      · have := mt_len _ _ _ q2
        have := FM_ge k h9
        show p + 5 ≤ _
        omega
    · cases h
theorem pOne_none {p q : Nat} (h : pOne t n p = (none, q)) : p ≤ q ∧ (∀ k, k < 9 → ∃ q', mtc t n (FM k) p [] = (false, q', (mtc t n (FM k) p []).2.2) ∧ q' ≤ q) ∧ (q = p ∨ ∃ k, k < 9 ∧ (mtc t n (FM k) p []).2.1 = q) := by
  unfold pOne at h
  split at h
  · rename_i hk
    cases h
    exact ⟨Nat.le_refl _, fun k h9 => ⟨p, by rw [wh_A hk k h9], Nat.le_refl _⟩, Or.inl rfl⟩
  · rename_i k hk
    obtain ⟨h9, hB⟩ := wh_B hk
    split at h
    · cases h
    · rename_i q2
      cases h
      have q2 : (mtc t n (FM k) p []).1 = false := by simpa using q2
      refine ⟨mt_ge _ _ _, fun j hj => ?_, Or.inr ⟨k, h9, rfl⟩⟩
      by_cases e : j = k
      · subst e
        exact ⟨_, by rw [← q2], Nat.le_refl _⟩
      · obtain ⟨q', e1, e2⟩ := hB j hj e
        exact ⟨q', by rw [e1], e2⟩
theorem pOne_le {p : Nat} (hp : p ≤ n) : (pOne t n p).2 ≤ n := by
  unfold pOne
  split
  · exact hp
  · split <;> exact mt_le _ _ _ hp
theorem rdC_in {p p' : Nat} {c : Nat × List Nat} {e : Bool} (hp : p ≤ n) (h : rdC t n p = .inr (c, p', e)) : p < p' ∧ p' ≤ n ∧ c.1 < 9 := by
  have hle := pOne_le (t := t) hp
  unfold rdC at h
  split at h
  · cases h
  · rename_i c' q hq
    obtain ⟨h1, -, h3, -⟩ := pOne_some hq
    rw [hq] at hle
    have hle : q ≤ n := hle
    split at h
    · cases h; exact ⟨by omega, hle, h1⟩
    · split at h
      · cases h; exact ⟨by omega, by omega, h1⟩
      · cases h
theorem rdC_no {p q : Nat} (hp : p ≤ n) (h : rdC t n p = .inl q) : q ≤ n := by
  have hle := pOne_le (t := t) hp
  unfold rdC at h
  split at h
  · rename_i q' hq; rw [hq] at hle; cases h; exact hle
  · rename_i c' q' hq
    rw [hq] at hle
    split at h
    · cases h
    · split at h
      · cases h
      · cases h; exact hle
end JPARSE

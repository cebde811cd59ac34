/-! ROUTES: lengths of routes, the least of them, what a row of lengths must hold to be the distances -/
section JROUTES
section
variable (n : Nat) (len : Nat → Nat) (lk : Nat → Nat → Bool)
/-- a route from a to g of k links and of the length c -/
def Rk : Nat → Nat → Nat → Nat → Prop
  | 0, a, g, c => a = g ∧ c = 0
  | k + 1, a, g, c => ∃ (b c' : Nat), lk a b = true ∧ Rk k b g c' ∧ c = c' + len b
def Rch (a g c : Nat) : Prop := ∃ k, Rk len lk k a g c
noncomputable def dst (a g : Nat) : Option Nat := by
  classical
  exact if h : ∃ c, Rch len lk a g c then some (Classical.choose (pk_least _ h)) else none
end
variable {n : Nat} {len : Nat → Nat} {lk : Nat → Nat → Bool}
theorem dst_some {a g c : Nat} (h : dst len lk a g = some c) : Rch len lk a g c ∧ ∀ c', Rch len lk a g c' → c ≤ c' := by
  unfold dst at h
  split at h
  · rename_i hh
    have hs := Classical.choose_spec (pk_least _ hh)
    cases h
    refine ⟨hs.1, fun c' hc' => ?_⟩
    rcases Nat.lt_or_ge c' (Classical.choose (pk_least _ hh)) with q | q
    · exact absurd hc' (hs.2 c' q)
    · exact q
  · cases h
theorem dst_none {a g : Nat} (h : dst len lk a g = none) (c : Nat) : ¬ Rch len lk a g c := by
  unfold dst at h
  split at h
  · cases h
  · rename_i hh
    exact fun q => hh ⟨c, q⟩
theorem dst_le {a g c : Nat} (h : Rch len lk a g c) : ∃ c0, dst len lk a g = some c0 ∧ c0 ≤ c := by
  cases hd : dst len lk a g with
  | none => exact absurd h (dst_none hd c)
  | some c0 => exact ⟨c0, rfl, (dst_some hd).2 c h⟩
theorem dst_eq {a g c : Nat} (h : Rch len lk a g c) (hl : ∀ c', Rch len lk a g c' → c ≤ c') : dst len lk a g = some c := by
  obtain ⟨c0, h1, h2⟩ := dst_le h
  have := hl c0 (dst_some h1).1
  rw [h1]
  congr 1
  omega
theorem dst_self (a : Nat) : dst len lk a a = some 0 := dst_eq ⟨0, rfl, rfl⟩ fun _ _ => Nat.zero_le _
theorem Rch.cons {a b g c : Nat} (hl : lk a b = true) (h : Rch len lk b g c) : Rch len lk a g (c + len b) := by
  obtain ⟨k, hk⟩ := h
  exact ⟨k + 1, b, c, hl, hk, rfl⟩
theorem Rk.snoc {k : Nat} : ∀ {a b d c : Nat}, Rk len lk k a b c → lk b d = true → Rk len lk (k + 1) a d (c + len d) := by
  induction k with
  | zero =>
    intro a b d c h hl
    obtain ⟨rfl, rfl⟩ := h
    exact ⟨d, 0, hl, ⟨rfl, rfl⟩, rfl⟩
  | succ k ih =>
    intro a b d c h hl
    obtain ⟨x, c', h1, h2, rfl⟩ := h
    exact ⟨x, c' + len d, h1, ih h2 hl, by omega⟩
theorem Rk.unsnoc {k : Nat} : ∀ {a d c : Nat}, Rk len lk (k + 1) a d c → ∃ b c', Rk len lk k a b c' ∧ lk b d = true ∧ c = c' + len d := by
  induction k with
  | zero =>
    intro a d c h
    obtain ⟨x, c', h1, ⟨rfl, rfl⟩, rfl⟩ := h
    exact ⟨a, 0, ⟨rfl, rfl⟩, h1, rfl⟩
  | succ k ih =>
    intro a d c h
    obtain ⟨x, c', h1, h2, rfl⟩ := h
    obtain ⟨b, c'', h3, h4, rfl⟩ := ih h2
    exact ⟨b, c'' + len x, ⟨x, c'', h1, h3, rfl⟩, h4, by omega⟩
theorem Rch.snoc {a b d c : Nat} (h : Rch len lk a b c) (hl : lk b d = true) : Rch len lk a d (c + len d) := by
  obtain ⟨k, hk⟩ := h
  exact ⟨k + 1, hk.snoc hl⟩
/-- the first link of a shortest route -/
theorem dst_first {a g c : Nat} (h : dst len lk a g = some c) (hne : a ≠ g) : ∃ b c', lk a b = true ∧ dst len lk b g = some c' ∧ c = c' + len b := by
  obtain ⟨⟨k, hk⟩, hmin⟩ := dst_some h
  cases k with
  | zero => exact absurd hk.1 hne
  | succ k =>
    obtain ⟨b, c', h1, h2, rfl⟩ := hk
    refine ⟨b, c', h1, dst_eq ⟨k, h2⟩ fun c'' hc'' => ?_, rfl⟩
    have := hmin _ (Rch.cons h1 hc'')
    omega
/-- .. and the last one -/
theorem dst_last {a g c : Nat} (h : dst len lk a g = some c) (hne : a ≠ g) : ∃ b c', lk b g = true ∧ dst len lk a b = some c' ∧ c = c' + len g := by
  obtain ⟨⟨k, hk⟩, hmin⟩ := dst_some h
  cases k with
  | zero => exact absurd hk.1 hne
  | succ k =>
    obtain ⟨b, c', h1, h2, rfl⟩ := hk.unsnoc
    refine ⟨b, c', h2, dst_eq ⟨k, h1⟩ fun c'' hc'' => ?_, rfl⟩
    have := hmin _ (hc''.snoc h2)
    omega
theorem dst_consle {a b g c : Nat} (h : dst len lk b g = some c) (hl : lk a b = true) : ∃ c', dst len lk a g = some c' ∧ c' ≤ c + len b := dst_le (Rch.cons hl (dst_some h).1)
theorem dst_snocle {a b g c : Nat} (h : dst len lk a b = some c) (hl : lk b g = true) : ∃ c', dst len lk a g = some c' ∧ c' ≤ c + len g := dst_le ((dst_some h).1.snoc hl)
theorem Rk.rev (hs : ∀ a b, lk a b = true → lk b a = true) {k : Nat} : ∀ {a b c : Nat}, Rk len lk k a b c → ∃ c', Rk len lk k b a c' ∧ c + len a = c' + len b := by
  induction k with
  | zero =>
    intro a b c h
    obtain ⟨rfl, rfl⟩ := h
    exact ⟨0, ⟨rfl, rfl⟩, rfl⟩
  | succ k ih =>
    intro a b c h
    obtain ⟨x, c', h1, h2, rfl⟩ := h
    obtain ⟨c'', h3, h4⟩ := ih h2
    exact ⟨c'' + len a, h3.snoc (hs _ _ h1), by omega⟩
theorem dst_rev (hs : ∀ a b, lk a b = true → lk b a = true) {a b c : Nat} (h : dst len lk a b = some c) : ∃ c', dst len lk b a = some c' ∧ c + len a = c' + len b := by
  obtain ⟨⟨k, hk⟩, hmin⟩ := dst_some h
  obtain ⟨c', h1, h2⟩ := hk.rev hs
  refine ⟨c', dst_eq ⟨k, h1⟩ fun c'' hc'' => ?_, h2⟩
  obtain ⟨k2, hk2⟩ := hc''
  obtain ⟨c3, h3, h4⟩ := hk2.rev hs
  have := hmin _ ⟨k2, h3⟩
  omega
theorem dst_revn (hs : ∀ a b, lk a b = true → lk b a = true) {a b : Nat} (h : dst len lk a b = none) : dst len lk b a = none := by
  cases hd : dst len lk b a with
  | none => rfl
  | some c =>
    obtain ⟨c', h1, -⟩ := dst_rev hs hd
    rw [h] at h1
    cases h1
/-- how many blocks are nearer to the start -/
noncomputable def rnk (n : Nat) (len : Nat → Nat) (lk : Nat → Nat → Bool) (s c : Nat) : Nat := by
  classical
  exact cnt n (fun x => decide (∃ c', dst len lk s x = some c' ∧ c' < c))
theorem rnk_lt {s c c' x : Nat} (hx : x < n) (hd : dst len lk s x = some c') (hc : c' < c) : rnk n len lk s c' < rnk n len lk s c := by
  classical
  unfold rnk
  refine cnt_lt (i := x) (fun j _ h => ?_) hx ?_ ?_
  · obtain ⟨c1, h1, h2⟩ := of_decide_eq_true h
    exact decide_eq_true ⟨c1, h1, by omega⟩
  · refine decide_eq_false fun ⟨c1, h1, h2⟩ => ?_
    rw [hd] at h1
    cases h1
    omega
  · exact decide_eq_true ⟨c', hd, hc⟩
theorem rnk_b {s c x : Nat} (hx : x < n) (hd : dst len lk s x = some c) : rnk n len lk s c + 1 ≤ n := by
  classical
  have h1 : rnk n len lk s c < cnt n (fun _ => true) := by
    unfold rnk
    refine cnt_lt (i := x) (fun j _ h => rfl) hx ?_ rfl
    refine decide_eq_false fun ⟨c1, h1, h2⟩ => ?_
    rw [hd] at h1
    cases h1
    omega
  have h2 := cnt_le n (fun _ => true)
  omega
/-- shortest routes are short -/
theorem dst_bound (hb : ∀ a b, lk a b = true → a < n ∧ b < n) (hl : ∀ b, b < n → 1 ≤ len b ∧ len b ≤ 9) {s : Nat} : ∀ (m c x : Nat), c ≤ m → x < n → dst len lk s x = some c → c ≤ 9 * rnk n len lk s c := by
  intro m
  induction m with
  | zero => intro c x h _ _; omega
  | succ m ih =>
    intro c x h hx hd
    by_cases e : s = x
    · subst e
      rw [dst_self] at hd
      cases hd
      omega
    · obtain ⟨b, c', h1, h2, rfl⟩ := dst_last hd e
      have hbn := (hb b x h1).1
      have hlx := hl x hx
      have i1 := ih c' b (by omega) hbn h2
      have i2 := rnk_lt (c := c' + len x) hbn h2 (by omega)
      omega
theorem dst_117 (hn : n ≤ 14) (hb : ∀ a b, lk a b = true → a < n ∧ b < n) (hl : ∀ b, b < n → 1 ≤ len b ∧ len b ≤ 9) {s x c : Nat} (hx : x < n) (hd : dst len lk s x = some c) : c ≤ 117 := by
  have h1 := dst_bound hb hl c c x (Nat.le_refl _) hx hd
  have h2 := rnk_b hx hd
  omega
def dF (F : Nat) (o : Option Nat) : Nat := o.getD F
/-- a row of numbers that are lengths of routes from s, and that no link shortens, holds the distances from s -/
theorem row_from {F : Nat} {v : Nat → Nat} {s : Nat} (hF : 117 < F) (hn : n ≤ 14) (hb : ∀ a b, lk a b = true → a < n ∧ b < n) (hl : ∀ b, b < n → 1 ≤ len b ∧ len b ≤ 9)
    (h1 : v s = 0) (h2 : ∀ a b, lk a b = true → v b ≤ v a + len b) (h3 : ∀ b, b < n → v b < F → Rch len lk s b (v b)) (h4 : ∀ b, b < n → v b ≤ F) : ∀ b, b < n → v b = dF F (dst len lk s b) := by
  intro b hbn
  have up : ∀ k b c, Rk len lk k s b c → v b ≤ c := by
    intro k
    induction k with
    | zero =>
      intro b c h
      obtain ⟨rfl, rfl⟩ := h
      omega
    | succ k ih =>
      intro b c h
      obtain ⟨x, c', g1, g2, rfl⟩ := h.unsnoc
      have := ih x c' g1
      have := h2 x b g2
      omega
  cases hd : dst len lk s b with
  | none =>
    have : ¬ v b < F := fun q => dst_none hd _ (h3 b hbn q)
    have := h4 b hbn
    show v b = F
    omega
  | some c =>
    obtain ⟨⟨k, hk⟩, hmin⟩ := dst_some hd
    have g1 := up k b c hk
    have g2 := dst_117 hn hb hl hbn hd
    have g3 := hmin _ (h3 b hbn (by omega))
    show v b = c
    omega
/-- .. and to g -/
theorem row_to {F : Nat} {v : Nat → Nat} {g : Nat} (hF : 117 < F) (hn : n ≤ 14) (hb : ∀ a b, lk a b = true → a < n ∧ b < n) (hl : ∀ b, b < n → 1 ≤ len b ∧ len b ≤ 9) (hg : g < n)
    (h1 : v g = 0) (h2 : ∀ a b, lk a b = true → v a ≤ v b + len b) (h3 : ∀ b, b < n → v b < F → Rch len lk b g (v b)) (h4 : ∀ b, b < n → v b ≤ F) : ∀ b, b < n → v b = dF F (dst len lk b g) := by
  intro b hbn
  have up : ∀ k b c, Rk len lk k b g c → v b ≤ c := by
    intro k
    induction k with
    | zero =>
      intro b c h
      obtain ⟨rfl, rfl⟩ := h
      omega
    | succ k ih =>
      intro b c h
      obtain ⟨x, c', g1, g2, rfl⟩ := h
      have := ih x c' g2
      have := h2 b x g1
      omega
  cases hd : dst len lk b g with
  | none =>
    have : ¬ v b < F := fun q => dst_none hd _ (h3 b hbn q)
    have := h4 b hbn
    show v b = F
    omega
  | some c =>
    obtain ⟨⟨k, hk⟩, hmin⟩ := dst_some hd
    have g1 := up k b c hk
    have g2 := dst_117 hn hb hl hg hd
    have g3 := hmin _ (h3 b hbn (by omega))
    show v b = c
    omega
/-- the least of several, the first of equals -/
def am : Nat → (Nat → Option Nat) → Option (Nat × Nat)
  | 0, _ => none
  | n + 1, q => match am n q, q n with
    | none, none => none
    | none, some c => some (n, c)
    | some p, none => some p
    | some p, some c => if c < p.2 then some (n, c) else some p
theorem am_none {q : Nat → Option Nat} : ∀ n : Nat, am n q = none → ∀ j, j < n → q j = none := by
  intro n
  induction n with
  | zero => intro _ j hj; omega
  | succ n ih =>
    intro h j hj
    cases ha : am n q with
    | none =>
      cases hq : q n with
      | none =>
        by_cases e : j = n
        · rw [e]; exact hq
        · exact ih ha j (by omega)
      | some c => simp [am, ha, hq] at h
    | some p =>
      cases hq : q n with
      | none => simp [am, ha, hq] at h
      | some c =>
        simp only [am, ha, hq] at h
        split at h <;> cases h
theorem am_some {q : Nat → Option Nat} : ∀ (n i m : Nat), am n q = some (i, m) → i < n ∧ q i = some m ∧ (∀ j, j < n → ∀ c, q j = some c → m ≤ c) ∧ ∀ j, j < i → ∀ c, q j = some c → m < c := by
  intro n
  induction n with
  | zero => intro i m h; cases h
  | succ n ih =>
    intro i m h
    cases ha : am n q with
    | none =>
      have hn := am_none n ha
      cases hq : q n with
      | none => simp [am, ha, hq] at h
      | some c =>
        simp only [am, ha, hq] at h
        cases h
        refine ⟨by omega, hq, fun j hj c' hc' => ?_, fun j hj c' hc' => ?_⟩
        · by_cases e : j = n
          · subst e; rw [hq] at hc'; cases hc'; omega
          · rw [hn j (by omega)] at hc'; cases hc'
        · rw [hn j hj] at hc'; cases hc'
    | some p =>
      obtain ⟨i0, m0⟩ := p
      obtain ⟨g1, g2, g3, g4⟩ := ih i0 m0 ha
      cases hq : q n with
      | none =>
        simp only [am, ha, hq] at h
        cases h
        refine ⟨by omega, g2, fun j hj c' hc' => ?_, g4⟩
        by_cases e : j = n
        · subst e; rw [hq] at hc'; cases hc'
        · exact g3 j (by omega) c' hc'
      | some c =>
        simp only [am, ha, hq] at h
        split at h
        · rename_i hlt
          cases h
          refine ⟨by omega, hq, fun j hj c' hc' => ?_, fun j hj c' hc' => ?_⟩
          · by_cases e : j = n
            · subst e; rw [hq] at hc'; cases hc'; omega
            · have := g3 j (by omega) c' hc'; omega
          · have := g3 j (by omega) c' hc'; omega
        · rename_i hlt
          cases h
          refine ⟨by omega, g2, fun j hj c' hc' => ?_, g4⟩
          by_cases e : j = n
          · subst e; rw [hq] at hc'; cases hc'; omega
          · exact g3 j (by omega) c' hc'
theorem am_eq {q : Nat → Option Nat} {n i m : Nat} (h1 : i < n) (h2 : q i = some m) (h3 : ∀ j, j < n → ∀ c, q j = some c → m ≤ c) (h4 : ∀ j, j < i → ∀ c, q j = some c → m < c) : am n q = some (i, m) := by
  cases ha : am n q with
  | none => rw [am_none n ha i h1] at h2; cases h2
  | some p =>
    obtain ⟨i0, m0⟩ := p
    obtain ⟨g1, g2, g3, g4⟩ := am_some n i0 m0 ha
    have e1 : m0 = m := by
      have := g3 i h1 m h2
      have := h3 i0 g1 m0 g2
      omega
    have e2 : i0 = i := by
      rcases Nat.lt_trichotomy i0 i with q1 | q1 | q1
      · have := h4 i0 q1 m0 g2; omega
      · exact q1
      · have := g4 i q1 m h2; omega
    rw [e1, e2]
end JROUTES

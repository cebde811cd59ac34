/-! TRAINS THAT BLOCK EACH OTHER: followed, and by a table -/
section JSTUCK
/-- the train by which a train is blocked -/
noncomputable def bk (S : St) (t : Nat) : Option Nat := if sOf S t = true then none else match nx S t with
  | none => none
  | some b => tAt S b
theorem bk_lt {S : St} {t u : Nat} (h : bk S t = some u) : u < sNt S := by
  unfold bk at h
  split at h
  · cases h
  · split at h
    · cases h
    · exact (tAt_some h).1
theorem bk_b {S : St} (h : WF S) {t : Nat} : ∀ k, bk S t = some k → k < 2 ^ 31 := fun k hk => by
  have := bk_lt hk
  have := h.nt
  omega
def it (B : Nat → Option Nat) : Nat → Nat → Option Nat
  | 0, t => some t
  | j + 1, t => (it B j t).bind B
theorem it_add (B : Nat → Option Nat) (a : Nat) : ∀ b t, it B (a + b) t = (it B a t).bind (it B b) := by
  intro b
  induction b with
  | zero => intro t; show it B a t = (it B a t).bind (it B 0); cases it B a t <;> rfl
  | succ b ih =>
    intro t
    show (it B (a + b) t).bind B = _
    rw [ih t]
    cases it B a t <;> rfl
theorem it_at {B : Nat → Option Nat} {a b t x : Nat} (h : it B a t = some x) : it B (a + b) t = it B b x := by rw [it_add, h]; rfl
theorem it_pre {B : Nat → Option Nat} {j t x : Nat} (h : it B j t = some x) {i : Nat} (hi : i ≤ j) : ∃ y, it B i t = some y := by
  cases e : it B i t with
  | some y => exact ⟨y, rfl⟩
  | none =>
    have := it_add B i (j - i) t
    rw [show i + (j - i) = j by omega, h, e] at this
    cases this
def cyc (B : Nat → Option Nat) (t : Nat) : Prop := ∃ j, 1 ≤ j ∧ it B j t = some t
theorem it_lt {B : Nat → Option Nat} {n : Nat} (hB : ∀ t u, B t = some u → u < n) {t : Nat} (ht : t < n) {j y : Nat} (h : it B j t = some y) : y < n := by
  cases j with
  | zero => cases h; exact ht
  | succ j =>
    obtain ⟨z, hz⟩ := it_pre h (show j ≤ j + 1 by omega)
    have h : (it B j t).bind B = some y := h
    rw [hz] at h
    exact hB z y h
/-- a train that is its own blocker's blocker.. is so within as many steps as there are trains -/
theorem cyc_short {B : Nat → Option Nat} {n : Nat} (hB : ∀ t u, B t = some u → u < n) {t : Nat} (ht : t < n) (h : cyc B t) : ∃ j, 1 ≤ j ∧ j ≤ n ∧ it B j t = some t := by
  obtain ⟨j, ⟨h1, h2⟩, h3⟩ := pk_least (fun j => 1 ≤ j ∧ it B j t = some t) h
  refine ⟨j, h1, ?_, h2⟩
  have key : ∀ m, m ≤ j → cnt n (fun x => (fnd m (fun i => it B i t == some x)).isSome) = m := by
    intro m
    induction m with
    | zero => intro _; exact cnt_0 fun _ _ => rfl
    | succ m ih =>
      intro hm
      obtain ⟨v, hv⟩ := it_pre h2 (show m ≤ j by omega)
      have hvn := it_lt hB ht hv
      rw [cnt_one (n := n) (i := v) (p := fun x => (fnd m (fun i => it B i t == some x)).isSome) hvn ?_ ?_ ?_, ih (by omega)]
      · cases e : fnd m (fun i => it B i t == some v) with
        | none => rfl
        | some i =>
          obtain ⟨g1, g2, -⟩ := fnd_is e
          have g2 : it B i t = some v := by simpa using g2
          have a1 := it_at (b := j - m) hv
          have a2 := it_at (b := j - m) g2
          rw [show m + (j - m) = j by omega] at a1
          exact absurd ⟨by omega, by rw [a2, ← a1, h2]⟩ (h3 (i + (j - m)) (by omega))
      · show (fnd (m + 1) (fun i => it B i t == some v)).isSome = true
        cases e : fnd (m + 1) (fun i => it B i t == some v) with
        | some _ => rfl
        | none =>
          have := fnd_no e m (by omega)
          rw [hv] at this
          simp at this
      · intro x _ hx
        show (fnd m (fun i => it B i t == some x)).isSome = (fnd (m + 1) (fun i => it B i t == some x)).isSome
        cases e : fnd m (fun i => it B i t == some x) with
        | some i =>
          obtain ⟨g1, g2, g3⟩ := fnd_is e
          rw [fnd_some (n := m + 1) (by omega) g2 g3]
        | none =>
          have g := fnd_no e
          rw [fnd_none (n := m + 1) fun i hi => ?_]
          by_cases q : i = m
          · subst q
            rw [hv]
            simp
            omega
          · exact g i (by omega)
  have := key j (Nat.le_refl _)
  have := cnt_le n (fun x => (fnd j (fun i => it B i t == some x)).isSome)
  omega
noncomputable def cycB (B : Nat → Option Nat) (t : Nat) : Bool := by
  classical
  exact decide (cyc B t)
theorem cycB_t {B : Nat → Option Nat} {t : Nat} : cycB B t = true ↔ cyc B t := by
  classical
  unfold cycB
  exact decide_eq_true_iff
/-- the number of the trains in deadlocks -/
noncomputable def stN (S : St) : Nat := cnt (sNt S) (cycB (bk S))
/-- followed for k steps: nothing found -/
theorem cyc_no {B : Nat → Option Nat} {n : Nat} (hB : ∀ t u, B t = some u → u < n) {t : Nat} (ht : t < n) (h : ∀ j, 1 ≤ j → j ≤ n → it B j t ≠ some t) : cycB B t = false := by
  cases e : cycB B t with
  | false => rfl
  | true =>
    obtain ⟨j, h1, h2, h3⟩ := cyc_short hB ht (cycB_t.mp e)
    exact absurd h3 (h j h1 h2)
theorem cyc_dead {B : Nat → Option Nat} {t k : Nat} (h : ∀ j, 1 ≤ j → j ≤ k → it B j t ≠ some t) (hk : it B k t = none) : cycB B t = false := by
  cases e : cycB B t with
  | false => rfl
  | true =>
    obtain ⟨j, h1, h2⟩ := cycB_t.mp e
    rcases Nat.lt_or_ge k j with q | q
    · obtain ⟨y, hy⟩ := it_pre h2 (show k ≤ j by omega)
      rw [hk] at hy
      cases hy
    · exact absurd h2 (h j h1 q)
/-- a way from t to x over trains below o -/
def PW (B : Nat → Option Nat) (o t x : Nat) : Prop := ∃ j, 1 ≤ j ∧ it B j t = some x ∧ ∀ i, 0 < i → i < j → ∃ y, it B i t = some y ∧ y < o
theorem pw_0 {B : Nat → Option Nat} {t x : Nat} : PW B 0 t x ↔ B t = some x := by
  refine ⟨fun ⟨j, h1, h2, h3⟩ => ?_, fun h => ⟨1, Nat.le_refl _, h, fun i h1 h2 => by omega⟩⟩
  by_cases e : j = 1
  · subst e; exact h2
  · obtain ⟨y, -, q⟩ := h3 1 (by omega) (by omega)
    omega
theorem pw_tail {B : Nat → Option Nat} {o : Nat} : ∀ N m x, m ≤ N → 1 ≤ m → it B m o = some x → (∀ i, 0 < i → i < m → ∃ y, it B i o = some y ∧ y < o + 1) → PW B o o x := by
  intro N
  induction N with
  | zero => intro m x h1 h2; omega
  | succ N ih =>
    intro m x hm h1 h2 h3
    by_cases e : ∃ i, 0 < i ∧ i < m ∧ it B i o = some o
    · obtain ⟨i, g1, g2, g3⟩ := e
      refine ih (m - i) x (by omega) (by omega) ?_ fun i' k1 k2 => ?_
      · rw [← it_at g3, show i + (m - i) = m by omega]; exact h2
      · obtain ⟨y, k3, k4⟩ := h3 (i + i') (by omega) (by omega)
        exact ⟨y, by rw [← it_at g3]; exact k3, k4⟩
    · refine ⟨m, h1, h2, fun i k1 k2 => ?_⟩
      obtain ⟨y, k3, k4⟩ := h3 i k1 k2
      refine ⟨y, k3, ?_⟩
      have : y ≠ o := fun q => e ⟨i, k1, k2, by rw [k3, q]⟩
      omega
theorem pw_s {B : Nat → Option Nat} {o t x : Nat} : PW B (o + 1) t x ↔ PW B o t x ∨ PW B o t o ∧ PW B o o x := by
  constructor
  · intro ⟨j, h1, h2, h3⟩
    by_cases e : ∃ i, 0 < i ∧ i < j ∧ it B i t = some o
    · obtain ⟨i, ⟨g1, g2, g3⟩, g4⟩ := pk_least (fun i => 0 < i ∧ i < j ∧ it B i t = some o) e
      right
      refine ⟨⟨i, g1, g3, fun i' k1 k2 => ?_⟩, pw_tail (j - i) (j - i) x (Nat.le_refl _) (by omega) ?_ fun i' k1 k2 => ?_⟩
      · obtain ⟨y, k3, k4⟩ := h3 i' k1 (by omega)
        refine ⟨y, k3, ?_⟩
        have : y ≠ o := fun q => g4 i' k2 ⟨k1, by omega, by rw [k3, q]⟩
        omega
      · rw [← it_at g3, show i + (j - i) = j by omega]; exact h2
      · obtain ⟨y, k3, k4⟩ := h3 (i + i') (by omega) (by omega)
        exact ⟨y, by rw [← it_at g3]; exact k3, k4⟩
    · left
      refine ⟨j, h1, h2, fun i k1 k2 => ?_⟩
      obtain ⟨y, k3, k4⟩ := h3 i k1 k2
      refine ⟨y, k3, ?_⟩
      have : y ≠ o := fun q => e ⟨i, k1, k2, by rw [k3, q]⟩
      omega
  · rintro (⟨j, h1, h2, h3⟩ | ⟨⟨j1, a1, a2, a3⟩, ⟨j2, b1, b2, b3⟩⟩)
    · refine ⟨j, h1, h2, fun i k1 k2 => ?_⟩
      obtain ⟨y, k3, k4⟩ := h3 i k1 k2
      exact ⟨y, k3, by omega⟩
    · refine ⟨j1 + j2, by omega, by rw [it_at a2]; exact b2, fun i k1 k2 => ?_⟩
      rcases Nat.lt_trichotomy i j1 with q | q | q
      · obtain ⟨y, k3, k4⟩ := a3 i k1 q
        exact ⟨y, k3, by omega⟩
      · subst q; exact ⟨o, a2, by omega⟩
      · obtain ⟨y, k3, k4⟩ := b3 (i - j1) (by omega) (by omega)
        refine ⟨y, ?_, by omega⟩
        rw [← it_at (b := i - j1) a2, show j1 + (i - j1) = i by omega] at k3
        exact k3
theorem pw_end {B : Nat → Option Nat} {n : Nat} (hB : ∀ t u, B t = some u → u < n) {t : Nat} (ht : t < n) : PW B n t t ↔ cyc B t := by
  refine ⟨fun ⟨j, h1, h2, _⟩ => ⟨j, h1, h2⟩, fun ⟨j, h1, h2⟩ => ⟨j, h1, h2, fun i _ k2 => ?_⟩⟩
  obtain ⟨y, hy⟩ := it_pre h2 (show i ≤ j by omega)
  exact ⟨y, hy, it_lt hB ht hy⟩
/-- the table, when the trains below o have been gone over -/
def TB (B : Nat → Option Nat) (n o : Nat) (T : Nat → Nat → Bool) : Prop := ∀ t, t < n → ∀ x, T t x = true ↔ PW B o t x
def tbS (T : Nat → Nat → Bool) (o t x : Nat) : Bool := T t x || (T t o && T o x)
theorem tb_0 {B : Nat → Option Nat} {n : Nat} : TB B n 0 (fun t x => B t == some x) := fun t _ x => by rw [pw_0]; simp
theorem tb_s {B : Nat → Option Nat} {n o : Nat} {T : Nat → Nat → Bool} (ho : o < n) (h : TB B n o T) : TB B n (o + 1) (tbS T o) := fun t ht x => by
  rw [pw_s, ← h t ht x, ← h t ht o, ← h o ho x]
  unfold tbS
  simp
theorem tbS_o {T : Nat → Nat → Bool} {o x : Nat} : tbS T o o x = T o x := by
  unfold tbS
  cases T o x <;> simp
theorem tb_end {B : Nat → Option Nat} {n : Nat} {T : Nat → Nat → Bool} (hB : ∀ t u, B t = some u → u < n) (h : TB B n n T) {t : Nat} (ht : t < n) : T t t = cycB B t := by
  rw [Bool.eq_iff_iff, h t ht t, cycB_t, pw_end hB ht]
end JSTUCK

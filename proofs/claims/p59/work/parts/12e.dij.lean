/-! ROWS OF DISTANCES: how they come about -/
section JDIJ
theorem cnt_full {n : Nat} {p : Nat → Bool} (h : n ≤ cnt n p) : ∀ j, j < n → p j = true := by
  induction n with
  | zero => intro j hj; omega
  | succ n ih =>
    intro j hj
    have h2 := cnt_le n p
    have h : n + 1 ≤ cnt n p + (if p n = true then 1 else 0) := h
    by_cases q : p n = true
    · rw [if_pos q] at h
      by_cases e : j = n
      · rw [e]; exact q
      · exact ih (by omega) j (by omega)
    · rw [if_neg q] at h
      omega
theorem cnt_one {n i : Nat} {p q : Nat → Bool} (hi : i < n) (h1 : p i = false) (h2 : q i = true) (h : ∀ j, j < n → j ≠ i → p j = q j) : cnt n q = cnt n p + 1 := by
  induction n with
  | zero => omega
  | succ n ih =>
    unfold cnt
    by_cases e : i = n
    · subst e
      rw [h1, h2, cnt_congr (p := q) (q := p) (fun j hj => (h j (by omega) (by omega)).symm)]
      rfl
    · rw [ih (by omega) (fun j hj hne => h j (by omega) hne), h n (by omega) (by omega)]
      omega
theorem cnt_up {n i : Nat} {p : Nat → Bool} (hi : i < n) (h1 : p i = false) : cnt n (va_up p i true) = cnt n p + 1 := cnt_one hi h1 (up_s _ _ _) fun j _ hne => (up_n _ _ hne).symm
/-! the least of several, step by step -/
def amI (o : Option (Nat × Nat)) : Option Nat := o.map Prod.fst
def amV (F : Nat) : Option (Nat × Nat) → Nat
  | none => F
  | some p => p.2
theorem am_s0 {q : Nat → Option Nat} {k : Nat} (h : q k = none) : am (k + 1) q = am k q := by
  show (match am k q, q k with | none, none => none | none, some c => some (k, c) | some p, none => some p | some p, some c => if c < p.2 then some (k, c) else some p) = am k q
  rw [h]
  cases am k q <;> rfl
theorem am_s1 {q : Nat → Option Nat} {k c F : Nat} (h : q k = some c) (hF : c < F) (hc : ¬ c < amV F (am k q)) : am (k + 1) q = am k q := by
  show (match am k q, q k with | none, none => none | none, some c => some (k, c) | some p, none => some p | some p, some c => if c < p.2 then some (k, c) else some p) = am k q
  rw [h]
  cases e : am k q with
  | none => rw [e] at hc; exact absurd hF hc
  | some p =>
    rw [e] at hc
    have hc : ¬ c < p.2 := hc
    simp only [if_neg hc]
theorem am_s2 {q : Nat → Option Nat} {k c F : Nat} (h : q k = some c) (hc : c < amV F (am k q)) : am (k + 1) q = some (k, c) := by
  show (match am k q, q k with | none, none => none | none, some c => some (k, c) | some p, none => some p | some p, some c => if c < p.2 then some (k, c) else some p) = _
  rw [h]
  cases e : am k q with
  | none => rfl
  | some p =>
    rw [e] at hc
    have hc : c < p.2 := hc
    simp only [if_pos hc]
theorem amV_le {q : Nat → Option Nat} {F : Nat} (k : Nat) (h : ∀ j c, j < k → q j = some c → c ≤ F) : amV F (am k q) ≤ F := by
  cases e : am k q with
  | none => exact Nat.le_refl _
  | some p =>
    obtain ⟨i, m⟩ := p
    obtain ⟨h1, h2, -⟩ := am_some k i m e
    exact h i m h1 h2
theorem amI_b {q : Nat → Option Nat} {n : Nat} : ∀ k, amI (am n q) = some k → k < n := fun k hk => by
  cases e : am n q with
  | none => rw [e] at hk; cases hk
  | some p =>
    obtain ⟨i, m⟩ := p
    rw [e] at hk
    cases hk
    exact (am_some n i m e).1
theorem am_congr {q r : Nat → Option Nat} {n : Nat} (h : ∀ j, j < n → q j = r j) : am n q = am n r := by
  induction n with
  | zero => rfl
  | succ n ih =>
    unfold am
    rw [ih fun j hj => h j (by omega), h n (by omega)]
/-! rows -/
variable {n : Nat} {len : Nat → Nat} {lk : Nat → Nat → Bool} {s : Nat}
def rlx (len : Nat → Nat) (lk : Nat → Nat → Bool) (v : Nat → Nat) (m j : Nat) : Nat := if lk m j = true ∧ v m + len j < v j then v m + len j else v j
theorem rlx_le (v : Nat → Nat) (m j : Nat) : rlx len lk v m j ≤ v j := by unfold rlx; split <;> omega
theorem rlx_lk {v : Nat → Nat} {m j : Nat} (h : lk m j = true) : rlx len lk v m j ≤ v m + len j := by
  unfold rlx
  split
  · exact Nat.le_refl _
  · rename_i q
    have : ¬ v m + len j < v j := fun e => q ⟨h, e⟩
    omega
theorem rlx_self {v : Nat → Nat} {m : Nat} (h : lk m m = false) : rlx len lk v m m = v m := by
  unfold rlx
  rw [h, if_neg (fun q => by cases q.1)]
def RowOk (n : Nat) (len : Nat → Nat) (lk : Nat → Nat → Bool) (s : Nat) (v : Nat → Nat) : Prop := v s = 0 ∧ (∀ b, b < n → v b < 1000 → Rch len lk s b (v b)) ∧ ∀ b, b < n → v b ≤ 1000
def row0 (s : Nat) : Nat → Nat := fun b => if b = s then 0 else 1000
theorem row0_ok : RowOk n len lk s (row0 s) := by
  refine ⟨by unfold row0; rw [if_pos rfl], fun b _ h => ?_, fun b _ => ?_⟩
  · unfold row0 at h ⊢
    split
    · rename_i e; subst e; exact ⟨0, rfl, rfl⟩
    · rename_i e; rw [if_neg e] at h; omega
  · unfold row0; split <;> omega
theorem rlx_ok {v : Nat → Nat} {m : Nat} (h : RowOk n len lk s v) (hm : m < n) : RowOk n len lk s (rlx len lk v m) := by
  obtain ⟨h1, h2, h3⟩ := h
  refine ⟨by have := rlx_le (len := len) (lk := lk) v m s; omega, fun b hb q => ?_, fun b hb => Nat.le_trans (rlx_le v m b) (h3 b hb)⟩
  unfold rlx at q ⊢
  split
  · rename_i e
    have := h3 b hb
    exact (h2 m hm (by omega)).snoc e.1
  · rename_i e
    rw [if_neg e] at q
    exact h2 b hb q
def DInv (n : Nat) (len : Nat → Nat) (lk : Nat → Nat → Bool) (s : Nat) (v : Nat → Nat) (st : Nat → Bool) : Prop :=
  RowOk n len lk s v ∧ ∀ a, a < n → st a = true → v a < 1000 ∧ (∀ b, lk a b = true → v b ≤ v a + len b) ∧ ∀ b, b < n → st b = false → v a ≤ v b
theorem dinv_step {v : Nat → Nat} {st : Nat → Bool} {m : Nat} (hlb : ∀ a b, lk a b = true → a < n ∧ b < n ∧ a ≠ b) (h : DInv n len lk s v st) (hm : m < n) (hs : st m = false) (hv : v m < 1000) (hmin : ∀ b, b < n → st b = false → v m ≤ v b) : DInv n len lk s (rlx len lk v m) (va_up st m true) := by
  have hmm : lk m m = false := by
    cases e : lk m m with
    | false => rfl
    | true => exact absurd rfl (hlb m m e).2.2
  refine ⟨rlx_ok h.1 hm, fun a ha hsa => ?_⟩
  by_cases e : a = m
  · subst e
    rw [rlx_self hmm]
    refine ⟨hv, fun b hb => rlx_lk hb, fun b hb hsb => ?_⟩
    have hne : b ≠ a := fun q => by rw [q, up_s] at hsb; cases hsb
    rw [up_n _ _ hne] at hsb
    have := hmin b hb hsb
    unfold rlx
    split <;> omega
  · rw [up_n _ _ e] at hsa
    obtain ⟨g1, g2, g3⟩ := h.2 a ha hsa
    have g4 := g3 m hm hs
    have ea : rlx len lk v m a = v a := by
      unfold rlx
      rw [if_neg (fun q => by omega)]
    rw [ea]
    refine ⟨g1, fun b hb => Nat.le_trans (rlx_le v m b) (g2 b hb), fun b hb hsb => ?_⟩
    by_cases e2 : b = m
    · subst e2; rw [rlx_self hmm]; exact g4
    · rw [up_n _ _ e2] at hsb
      have := g3 b hb hsb
      unfold rlx
      split <;> omega
theorem dinv_end {v : Nat → Nat} {st : Nat → Bool} (hn : n ≤ 14) (hlb : ∀ a b, lk a b = true → a < n ∧ b < n ∧ a ≠ b) (hl : ∀ b, b < n → 1 ≤ len b ∧ len b ≤ 9) (h : DInv n len lk s v st) (he : ∀ b, b < n → st b = false → 1000 ≤ v b) : ∀ b, b < n → v b = dF 1000 (dst len lk s b) := by
  obtain ⟨⟨h1, h2, h3⟩, h4⟩ := h
  refine row_from (by omega) hn (fun a b q => ⟨(hlb a b q).1, (hlb a b q).2.1⟩) hl h1 (fun a b q => ?_) h2 h3
  have ha := (hlb a b q).1
  have hb := (hlb a b q).2.1
  cases e : st a with
  | true => exact (h4 a ha e).2.1 b q
  | false =>
    have := he a ha e
    have := h3 b hb
    omega
def RExact (n : Nat) (len : Nat → Nat) (lk : Nat → Nat → Bool) (s k : Nat) (v : Nat → Nat) : Prop := RowOk n len lk s v ∧ ∀ b c, b < n → dst len lk s b = some c → rnk n len lk s c < k → v b = c
def Rnd (n : Nat) (len : Nat → Nat) (lk : Nat → Nat → Bool) (s i : Nat) (v w : Nat → Nat) (sh : Bool) : Prop :=
  RowOk n len lk s w ∧ (∀ b, b < n → w b ≤ v b) ∧ (∀ x, x < i → ∀ b, lk x b = true → w b ≤ v x + len b) ∧ (sh = false → ∀ b, b < n → w b = v b)
theorem rnd_0 {v : Nat → Nat} (h : RowOk n len lk s v) : Rnd n len lk s 0 v v false := ⟨h, fun b _ => Nat.le_refl _, fun x hx => by omega, fun _ b _ => rfl⟩
def shr (n : Nat) (len : Nat → Nat) (lk : Nat → Nat → Bool) (w : Nat → Nat) (i k : Nat) : Bool := (fnd k (fun j => lk i j && decide (w i + len j < w j))).isSome
theorem rnd_step {i : Nat} {v w : Nat → Nat} {sh : Bool} (hlb : ∀ a b, lk a b = true → a < n ∧ b < n ∧ a ≠ b) (h : Rnd n len lk s i v w sh) (hi : i < n) : Rnd n len lk s (i + 1) v (rlx len lk w i) (sh || shr n len lk w i n) := by
  obtain ⟨h1, h2, h3, h4⟩ := h
  refine ⟨rlx_ok h1 hi, fun b hb => Nat.le_trans (rlx_le w i b) (h2 b hb), fun x hx b hb => ?_, fun q b hb => ?_⟩
  · by_cases e : x = i
    · subst e
      have := rlx_lk (len := len) (v := w) hb
      have := h2 x hi
      omega
    · exact Nat.le_trans (rlx_le w i b) (h3 x (by omega) b hb)
  · rw [Bool.or_eq_false_iff] at q
    rw [← h4 q.1 b hb]
    have q2 : fnd n (fun j => lk i j && decide (w i + len j < w j)) = none := by
      have := q.2
      unfold shr at this
      cases e : fnd n (fun j => lk i j && decide (w i + len j < w j)) with
      | none => rfl
      | some _ => rw [e] at this; cases this
    have := fnd_no q2 b hb
    unfold rlx
    rw [if_neg (fun e => by simp [e.1, e.2] at this)]
theorem rnd_end {k : Nat} {v w : Nat → Nat} {sh : Bool} (hn : n ≤ 14) (hlb : ∀ a b, lk a b = true → a < n ∧ b < n ∧ a ≠ b) (hl : ∀ b, b < n → 1 ≤ len b ∧ len b ≤ 9) (h : Rnd n len lk s n v w sh) (g : RExact n len lk s k v) : RExact n len lk s (k + 1) w := by
  obtain ⟨h1, h2, h3, h4⟩ := h
  refine ⟨h1, fun b c hb hd hr => ?_⟩
  by_cases e : s = b
  · subst e
    rw [dst_self] at hd
    cases hd
    exact h1.1
  · obtain ⟨x, c', g1, g2, rfl⟩ := dst_last hd e
    have hx := (hlb x b g1).1
    have := hl b hb
    have g3 := rnk_lt (c := c' + len b) hx g2 (by omega)
    have g4 := g.2 x c' hx g2 (by omega)
    have g5 := h3 x hx b g1
    have g6 := dst_117 hn (fun a b q => ⟨(hlb a b q).1, (hlb a b q).2.1⟩) hl hb hd
    have g7 := (dst_some hd).2 _ (h1.2.1 b hb (by omega))
    omega
theorem rnd_done {v w : Nat → Nat} (hn : n ≤ 14) (hlb : ∀ a b, lk a b = true → a < n ∧ b < n ∧ a ≠ b) (hl : ∀ b, b < n → 1 ≤ len b ∧ len b ≤ 9) (h : Rnd n len lk s n v w false) : ∀ b, b < n → w b = dF 1000 (dst len lk s b) := by
  obtain ⟨h1, h2, h3, h4⟩ := h
  refine row_from (by omega) hn (fun a b q => ⟨(hlb a b q).1, (hlb a b q).2.1⟩) hl h1.1 (fun a b q => ?_) h1.2.1 h1.2.2
  have := h3 a (hlb a b q).1 b q
  have := h4 rfl a (hlb a b q).1
  omega
theorem rexact_0 : RExact n len lk s 0 (row0 s) := ⟨row0_ok, fun b c _ _ h => by omega⟩
theorem rexact_end {k : Nat} {v : Nat → Nat} (hk : n ≤ k) (h : RExact n len lk s k v) : ∀ b, b < n → v b = dF 1000 (dst len lk s b) := by
  intro b hb
  cases hd : dst len lk s b with
  | none =>
    have g1 : ¬ v b < 1000 := fun q => dst_none hd _ (h.1.2.1 b hb q)
    have g2 := h.1.2.2 b hb
    show v b = 1000
    omega
  | some c =>
    have := rnk_b hb hd
    exact h.2 b c hb hd (by omega)
def opq (v : Nat → Nat) (st : Nat → Bool) (b : Nat) : Option Nat := if st b = false ∧ v b < 1000 then some (v b) else none
theorem opq_le {v : Nat → Nat} {st : Nat → Bool} (k : Nat) : amV 1000 (am k (opq v st)) ≤ 1000 := amV_le k fun j c _ h => by
  unfold opq at h
  split at h
  · cases h; omega
  · cases h
end JDIJ

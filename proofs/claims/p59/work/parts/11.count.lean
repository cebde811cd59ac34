/-! FINDING, COUNTING -/
section JCOUNT
def fnd (n : Nat) (p : Nat → Bool) : Option Nat := (List.range n).find? p
theorem fnd_some {n k : Nat} {p : Nat → Bool} (hk : k < n) (hp : p k = true) (h : ∀ j, j < k → p j = false) : fnd n p = some k := by
  unfold fnd
  rw [List.find?_eq_some_iff_append]
  refine ⟨hp, (List.range k), (List.range' (k + 1) (n - k - 1)), ?_, fun a ha => ?_⟩
  · rw [List.range_eq_range', List.range_eq_range', ← List.range'_succ]
    have := List.range'_append (s := 0) (m := k) (n := n - k - 1 + 1) (step := 1)
    rw [show 0 + 1 * k = k by omega] at this
    rw [this]
    congr 1
    omega
  · have := List.mem_range.mp ha
    rw [h a this]
    rfl
theorem fnd_none {n : Nat} {p : Nat → Bool} (h : ∀ j, j < n → p j = false) : fnd n p = none := by
  unfold fnd
  rw [List.find?_eq_none]
  intro x hx
  rw [h x (List.mem_range.mp hx)]
  decide
theorem fnd_is {n k : Nat} {p : Nat → Bool} (h : fnd n p = some k) : k < n ∧ p k = true ∧ ∀ j, j < k → p j = false := by
  by_cases he : ∃ j, j < n ∧ p j = true
  · obtain ⟨j, ⟨hj1, hj2⟩, hl⟩ := pk_least (fun j => j < n ∧ p j = true) he
    have := fnd_some hj1 hj2 (fun i hi => by
      have := hl i hi
      cases hpi : p i with
      | false => rfl
      | true => exact absurd ⟨by omega, hpi⟩ this)
    rw [h] at this
    cases this
    exact ⟨hj1, hj2, fun i hi => by
      have := hl i hi
      cases hpi : p i with
      | false => rfl
      | true => exact absurd ⟨by omega, hpi⟩ this⟩
  · have : fnd n p = none := fnd_none fun j hj => by
      cases hpj : p j with
      | false => rfl
      | true => exact absurd ⟨j, hj, hpj⟩ he
    rw [h] at this
    cases this
theorem fnd_no {n : Nat} {p : Nat → Bool} (h : fnd n p = none) : ∀ j, j < n → p j = false := by
  intro j hj
  cases hpj : p j with
  | false => rfl
  | true =>
    obtain ⟨k, ⟨h1, h2⟩, h3⟩ := pk_least (fun j => j < n ∧ p j = true) ⟨j, hj, hpj⟩
    rw [fnd_some h1 h2 (fun i hi => by
      cases hpi : p i with
      | false => rfl
      | true => exact absurd ⟨by omega, hpi⟩ (h3 i hi))] at h
    cases h
theorem fnd_congr {n : Nat} {p q : Nat → Bool} (h : ∀ j, j < n → p j = q j) : fnd n p = fnd n q := by
  cases hq : fnd n q with
  | none => exact fnd_none fun j hj => (h j hj).trans (fnd_no hq j hj)
  | some k =>
    obtain ⟨h1, h2, h3⟩ := fnd_is hq
    exact fnd_some h1 ((h k h1).trans h2) fun j hj => (h j (by omega)).trans (h3 j hj)
def oI : Option Nat → Int32
  | none => -1
  | some k => nI k
theorem oI_m1 {o : Option Nat} (h : ∀ k, o = some k → k < 2 ^ 31) : oI o = -1 ↔ o = none := by
  cases o with
  | none => exact ⟨fun _ => rfl, fun _ => rfl⟩
  | some k =>
    refine ⟨fun e => absurd e (nI_ne_m1 (h k rfl)), fun e => by cases e⟩
def cnt : Nat → (Nat → Bool) → Nat
  | 0, _ => 0
  | n + 1, p => cnt n p + (if p n then 1 else 0)
theorem cnt_le (n : Nat) (p : Nat → Bool) : cnt n p ≤ n := by
  induction n with
  | zero => exact Nat.le_refl _
  | succ n ih =>
    unfold cnt
    split <;> omega
theorem cnt_congr {n : Nat} {p q : Nat → Bool} (h : ∀ j, j < n → p j = q j) : cnt n p = cnt n q := by
  induction n with
  | zero => rfl
  | succ n ih =>
    unfold cnt
    rw [ih fun j hj => h j (by omega), h n (by omega)]
theorem cnt_mono {n : Nat} {p q : Nat → Bool} (h : ∀ j, j < n → p j = true → q j = true) : cnt n p ≤ cnt n q := by
  induction n with
  | zero => exact Nat.le_refl _
  | succ n ih =>
    unfold cnt
    have := ih fun j hj => h j (by omega)
    by_cases hp : p n = true
    · rw [if_pos hp, if_pos (h n (by omega) hp)]
      omega
    · rw [if_neg hp]
      omega
theorem cnt_lt {n i : Nat} {p q : Nat → Bool} (h : ∀ j, j < n → p j = true → q j = true) (hi : i < n) (h1 : p i = false) (h2 : q i = true) : cnt n p < cnt n q := by
  induction n with
  | zero => omega
  | succ n ih =>
    unfold cnt
    by_cases e : i = n
    · subst e
      rw [if_neg (by rw [h1]; decide), if_pos h2]
      have := cnt_mono (n := i) (p := p) (q := q) fun j hj => h j (by omega)
      omega
    · have := ih (fun j hj => h j (by omega)) (by omega)
      by_cases hp : p n = true
      · rw [if_pos hp, if_pos (h n (by omega) hp)]
        omega
      · rw [if_neg hp]
        omega
theorem cnt_ext {n m : Nat} {p : Nat → Bool} (h : n ≤ m) (hp : ∀ j, n ≤ j → p j = false) : cnt m p = cnt n p := by
  induction m with
  | zero =>
    have : n = 0 := by omega
    subst this
    rfl
  | succ m ih =>
    by_cases e : n = m + 1
    · subst e; rfl
    · show cnt m p + (if p m = true then 1 else 0) = cnt n p
      rw [ih (by omega), hp m (by omega)]
      simp
/-! a word's bits, counted -/
def popF (x : Int32) : Int32 :=
  let sh : Int32 → Int32 → Int32 := fun a b => (a.toUInt32 >>> (b.toUInt32 &&& Int32.toUInt32 31)).toInt32
  let a := x - (sh x (nI 1) &&& 1431655765)
  let b := (a &&& 858993459) + (sh a (nI 2) &&& 858993459)
  let c := (b + sh b (nI 4)) &&& 252645135
  let e := c + sh c (nI 8)
  let f := e + sh e (nI 16)
  f &&& nI 63
theorem pop_c0 : ∀ a, a < 16 → ∀ b, b < 128 → popF (nI (128 * (16 * 0 + a) + b)) = nI (cnt 14 (fun j => (128 * (16 * 0 + a) + b).testBit j)) := by decide +kernel
theorem pop_c1 : ∀ a, a < 16 → ∀ b, b < 128 → popF (nI (128 * (16 * 1 + a) + b)) = nI (cnt 14 (fun j => (128 * (16 * 1 + a) + b).testBit j)) := by decide +kernel
theorem pop_c2 : ∀ a, a < 16 → ∀ b, b < 128 → popF (nI (128 * (16 * 2 + a) + b)) = nI (cnt 14 (fun j => (128 * (16 * 2 + a) + b).testBit j)) := by decide +kernel
theorem pop_c3 : ∀ a, a < 16 → ∀ b, b < 128 → popF (nI (128 * (16 * 3 + a) + b)) = nI (cnt 14 (fun j => (128 * (16 * 3 + a) + b).testBit j)) := by decide +kernel
theorem pop_c4 : ∀ a, a < 16 → ∀ b, b < 128 → popF (nI (128 * (16 * 4 + a) + b)) = nI (cnt 14 (fun j => (128 * (16 * 4 + a) + b).testBit j)) := by decide +kernel
theorem pop_c5 : ∀ a, a < 16 → ∀ b, b < 128 → popF (nI (128 * (16 * 5 + a) + b)) = nI (cnt 14 (fun j => (128 * (16 * 5 + a) + b).testBit j)) := by decide +kernel
theorem pop_c6 : ∀ a, a < 16 → ∀ b, b < 128 → popF (nI (128 * (16 * 6 + a) + b)) = nI (cnt 14 (fun j => (128 * (16 * 6 + a) + b).testBit j)) := by decide +kernel
theorem pop_c7 : ∀ a, a < 16 → ∀ b, b < 128 → popF (nI (128 * (16 * 7 + a) + b)) = nI (cnt 14 (fun j => (128 * (16 * 7 + a) + b).testBit j)) := by decide +kernel
theorem pop_is {m : Nat} (h : m < 2 ^ 14) : popF (nI m) = nI (cnt 14 (fun j => m.testBit j)) := by
  have hc : m / 2048 = 0 ∨ m / 2048 = 1 ∨ m / 2048 = 2 ∨ m / 2048 = 3 ∨ m / 2048 = 4 ∨ m / 2048 = 5 ∨ m / 2048 = 6 ∨ m / 2048 = 7 := by omega
  rcases hc with q | q | q | q | q | q | q | q
  · have := pop_c0 (m / 128 % 16) (by omega) (m % 128) (by omega)
    rw [show 128 * (16 * 0 + m / 128 % 16) + m % 128 = m by omega] at this
    exact this
  · have := pop_c1 (m / 128 % 16) (by omega) (m % 128) (by omega)
    rw [show 128 * (16 * 1 + m / 128 % 16) + m % 128 = m by omega] at this
    exact this
  · have := pop_c2 (m / 128 % 16) (by omega) (m % 128) (by omega)
    rw [show 128 * (16 * 2 + m / 128 % 16) + m % 128 = m by omega] at this
    exact this
  · have := pop_c3 (m / 128 % 16) (by omega) (m % 128) (by omega)
    rw [show 128 * (16 * 3 + m / 128 % 16) + m % 128 = m by omega] at this
    exact this
  · have := pop_c4 (m / 128 % 16) (by omega) (m % 128) (by omega)
    rw [show 128 * (16 * 4 + m / 128 % 16) + m % 128 = m by omega] at this
    exact this
  · have := pop_c5 (m / 128 % 16) (by omega) (m % 128) (by omega)
    rw [show 128 * (16 * 5 + m / 128 % 16) + m % 128 = m by omega] at this
    exact this
  · have := pop_c6 (m / 128 % 16) (by omega) (m % 128) (by omega)
    rw [show 128 * (16 * 6 + m / 128 % 16) + m % 128 = m by omega] at this
    exact this
  · have := pop_c7 (m / 128 % 16) (by omega) (m % 128) (by omega)
    rw [show 128 * (16 * 7 + m / 128 % 16) + m % 128 = m by omega] at this
    exact this
theorem pop_bits {x : Int32} {p : Nat → Bool} {n : Nat} (h : bits x p) (hn : n ≤ 14) (hp : ∀ j, n ≤ j → p j = false) : popF x = nI (cnt n p) := by
  obtain ⟨m, h1, rfl, h3⟩ := bits_nat h (by omega) (fun j hj => hp j (by omega)) (n := 14)
  rw [pop_is h1, cnt_congr h3, cnt_ext hn hp]
end JCOUNT

/-! MORE OF NUMBERS AND COUNTS -/
section JMORE
theorem nI_mul (a b : Nat) : nI a * nI b = nI (a * b) := (Int32.ofNat_mul a b).symm
theorem nI_dec {p : Nat} (h : 1 ≤ p) : nI p + (-1) = nI (p - 1) := by
  have := nI_pred (p - 1)
  rw [show p - 1 + 1 = p by omega] at this
  rw [← this, Int32.sub_eq_add_neg]
theorem tAt_b {S : St} (h : WF S) {b : Nat} : ∀ k, tAt S b = some k → k < 2 ^ 31 := fun k hk => by
  have := (tAt_some hk).1
  have := h.nt
  omega
theorem hOf_b {S : St} (h : WF S) {b : Nat} : ∀ k, hOf S b = some k → k < 2 ^ 31 := fun k hk => by
  have := (hOf_some hk).1
  have := h.nt
  omega
theorem sGo_b {S : St} (h : WF S) {t : Nat} (ht : t < sNt S) : ∀ k, sGo S t = some k → k < 2 ^ 31 := fun k hk => by
  have := h.2.2.2.2.2.1 t ht k hk
  have := h.nb
  omega
theorem sHo_b {S : St} (h : WF S) {t : Nat} (ht : t < sNt S) : ∀ k, sHo S t = some k → k < 2 ^ 31 := fun k hk => by
  have := h.2.2.2.2.2.2.1 t ht k hk
  have := h.nb
  omega
theorem nx_b {S : St} (h : WF S) {t : Nat} : ∀ k, nx S t = some k → k < 2 ^ 31 := fun k hk => by
  have := (nx_lt hk).1
  have := h.nb
  omega
theorem cnt_or {n : Nat} {p q : Nat → Bool} (h : ∀ j, j < n → p j = true → q j = false) : cnt n (fun j => p j || q j) = cnt n p + cnt n q := by
  induction n with
  | zero => rfl
  | succ n ih =>
    unfold cnt
    rw [ih fun j hj => h j (by omega)]
    have h2 := h n (by omega)
    show cnt n p + cnt n q + (if (p n || q n) = true then 1 else 0) = _
    cases hp : p n with
    | true =>
      rw [h2 hp]
      exact Nat.add_right_comm _ _ _
    | false =>
      cases hq : q n with
      | true => exact Nat.add_assoc _ _ _
      | false => rfl
theorem cnt_and {n t : Nat} {q : Nat → Bool} (h : t ≤ n) : cnt n (fun j => q j && decide (j < t)) = cnt t q := by
  rw [cnt_ext h (fun j hj => by simp; omega)]
  exact cnt_congr fun j hj => by simp [hj]
theorem cnt_0 {n : Nat} {p : Nat → Bool} (h : ∀ j, j < n → p j = false) : cnt n p = 0 := by
  induction n with
  | zero => rfl
  | succ n ih =>
    unfold cnt
    rw [ih fun j hj => h j (by omega), h n (by omega)]
    rfl
theorem ahd_is {S : St} {t p : Nat} (ht : t < sNt S) (hp : sPr S t = p) : ahd S t = cnt (sNt S) (fun u => decide (p < sPr S u)) + cnt t (fun u => sPr S u == p) := by
  subst hp
  unfold ahd
  rw [cnt_or (fun j _ h => by
    have h := of_decide_eq_true h
    have : (sPr S j == sPr S t) = false := by rw [beq_eq_false_iff_ne]; omega
    rw [this]; rfl)]
  rw [cnt_and (by omega)]
theorem pass_is {S : St} {p : Nat} (hp : 1 ≤ p) : cnt (sNt S) (fun u => decide (p - 1 < sPr S u)) = cnt (sNt S) (fun u => decide (p < sPr S u)) + cnt (sNt S) (fun u => sPr S u == p) := by
  rw [← cnt_or (fun j _ h => by
    have h := of_decide_eq_true h
    rw [beq_eq_false_iff_ne]; omega)]
  refine cnt_congr fun j _ => ?_
  rw [Bool.eq_iff_iff]
  simp
  omega
theorem ahd_lt {S : St} {t u : Nat} (ht : t < sNt S) (hu : u < sNt S) (h : sPr S u < sPr S t ∨ (sPr S t = sPr S u ∧ t < u)) : ahd S t < ahd S u := by
  unfold ahd
  refine cnt_lt (i := t) (fun j _ hj => ?_) ht ?_ ?_
  · simp at hj ⊢
    omega
  · simp
  · simp
    omega
theorem ahd_inj {S : St} {t u : Nat} (ht : t < sNt S) (hu : u < sNt S) (h : ahd S t = ahd S u) : t = u := by
  rcases Nat.lt_trichotomy (sPr S t) (sPr S u) with q | q | q
  · have := ahd_lt hu ht (Or.inl q); omega
  · rcases Nat.lt_trichotomy t u with r | r | r
    · have := ahd_lt ht hu (Or.inr ⟨q, r⟩); omega
    · exact r
    · have := ahd_lt hu ht (Or.inr ⟨q.symm, r⟩); omega
  · have := ahd_lt ht hu (Or.inl q); omega
theorem ahd_le (S : St) (t : Nat) : ahd S t ≤ sNt S := cnt_le _ _
/-- the train of a rank -/
def rkX (S : St) (x : Int32) : Option Nat := fnd (sNt S) (fun t => decide (nI (ahd S t) = x))
theorem rkX_b {S : St} (h : WF S) {x : Int32} : ∀ k, rkX S x = some k → k < 2 ^ 31 := fun k hk => by
  have := (fnd_is hk).1
  have := h.nt
  omega
theorem rkX_n {S : St} (h : WF S) {r : Nat} (hr : r < 2 ^ 31) : rkX S (nI r) = rkT S r := by
  unfold rkX rkT
  refine fnd_congr fun j hj => ?_
  have := ahd_le S j
  have := h.nt
  rw [Bool.eq_iff_iff]
  simp
  exact ⟨fun e => nI_inj (by omega) (by omega) e, fun e => by rw [e]⟩
theorem rkX_some {S : St} (h : WF S) {x : Int32} {t : Nat} (ht : t < sNt S) (e : nI (ahd S t) = x) : rkX S x = some t := by
  refine fnd_some ht (by simp [e]) fun j hj => ?_
  refine decide_eq_false fun e2 => ?_
  have h1 := ahd_le S j
  have h2 := ahd_le S t
  have h3 := h.nt
  have := ahd_inj (S := S) (by omega) ht (nI_inj (by omega) (by omega) (e2.trans e.symm))
  omega
theorem rkX_none {S : St} {x : Int32} (h : ∀ t, t < sNt S → ¬ nI (ahd S t) = x) : rkX S x = none := fnd_none fun j hj => decide_eq_false (h j hj)
def sumW (f : Nat → Int32) : Nat → Int32
  | 0 => 0
  | n + 1 => sumW f n + f n
/-- how a block shows -/
def sgn (S : St) (b : Nat) : Nat := if sCa S b = true then 99 else if (tAt S b).isSome = true then 111 else if (hOf S b).isSome = true then 114 else 102
def sumC (lk : Nat → Nat → Bool) (m : Nat) : Nat → Nat
  | 0 => 0
  | n + 1 => sumC lk m n + cnt m (lk n)
theorem sumC_s (lk : Nat → Nat → Bool) (m : Nat) : ∀ n, sumC lk (m + 1) n = sumC lk m n + cnt n (fun a => lk a m) := by
  intro n
  induction n with
  | zero => rfl
  | succ n ih =>
    show sumC lk (m + 1) n + (cnt m (lk n) + (if lk n m = true then 1 else 0)) = sumC lk m n + cnt m (lk n) + (cnt n (fun a => lk a m) + (if lk n m = true then 1 else 0))
    rw [ih]
    omega
theorem sumC_2 {S : St} (h : ∀ a b, sLk S a b = true → a ≠ b ∧ sLk S b a = true) : ∀ n, sumC (sLk S) n n = 2 * lkN S n := by
  have hs : ∀ a b, sLk S a b = sLk S b a := fun a b => by
    cases e : sLk S a b with
    | true => exact (h a b e).2.symm
    | false =>
      cases e2 : sLk S b a with
      | true => rw [(h b a e2).2] at e; cases e
      | false => rfl
  intro n
  induction n with
  | zero => rfl
  | succ n ih =>
    show sumC (sLk S) (n + 1) n + (cnt n (sLk S n) + _) = 2 * (lkN S n + cnt n (sLk S n))
    rw [sumC_s, ih, cnt_congr (q := sLk S n) (fun j _ => hs j n), if_neg (fun e => (h n n e).1 rfl)]
    omega
theorem sumC_le (lk : Nat → Nat → Bool) (m : Nat) (h : m ≤ 14) : ∀ n, sumC lk m n ≤ 14 * n := by
  intro n
  induction n with
  | zero => exact Nat.le_refl _
  | succ n ih =>
    have := cnt_le m (lk n)
    show sumC lk m n + cnt m (lk n) ≤ _
    omega
theorem lkN_b {S : St} (h : WF S) : lkN S (sNb S) < 256 := by
  have h1 := sumC_2 (S := S) (fun a b e => ⟨(h.2.2.2.1 a b e).2.2.1, (h.2.2.2.1 a b e).2.2.2⟩) (sNb S)
  have h2 := sumC_le (sLk S) (sNb S) h.nb (sNb S)
  have := h.nb
  omega
end JMORE

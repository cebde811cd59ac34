/-! NUMBERS, BITS, FINDING, COUNTING -/
section JPURE
def b2i : Bool → Int32
  | true => 1
  | false => 0
theorem b2i_nar (b : Bool) : narrow .boolean (.int (b2i b)) = .int (b2i b) := by cases b <;> rfl
theorem b2i_ne {b : Bool} : ¬ b2i b = 0 ↔ b = true := by cases b <;> decide
theorem b2i_eq {b : Bool} : b2i b = 0 ↔ b = false := by cases b <;> decide
theorem b2i_01 (b : Bool) : b2i b = 0 ∨ b2i b = 1 := by cases b <;> decide
/-- the index that x is, of those below n -/
def vi (n : Nat) (x : Int32) : Option Nat := if 0 ≤ x.toInt ∧ x.toInt < n then some x.toInt.toNat else none
theorem vi_some {n k : Nat} {x : Int32} (hn : n < 2 ^ 31) (h : vi n x = some k) : k < n ∧ x = nI k := by
  unfold vi at h
  split at h
  · rename_i hh
    cases h
    refine ⟨by omega, ?_⟩
    apply Int32.toInt_inj.mp
    rw [nI_toInt (by omega)]
    omega
  · cases h
theorem vi_nI {n k : Nat} (hk : k < n) (hn : n < 2 ^ 31) : vi n (nI k) = some k := by
  unfold vi
  rw [nI_toInt (by omega)]
  rw [if_pos ⟨by omega, by omega⟩]
  simp
theorem le0_toInt {x : Int32} : x < 0 ↔ x.toInt < 0 := by
  rw [Int32.lt_iff_toInt_lt]
  rfl
theorem lt_nI {n : Nat} (hn : n < 2 ^ 31) {x : Int32} : x < nI n ↔ x.toInt < n := by
  rw [Int32.lt_iff_toInt_lt, nI_toInt hn]
theorem nI_le' {n : Nat} (hn : n < 2 ^ 31) {x : Int32} : nI n ≤ x ↔ (n : Int) ≤ x.toInt := by
  rw [Int32.le_iff_toInt_le, nI_toInt hn]
theorem le_nI' {n : Nat} (hn : n < 2 ^ 31) {x : Int32} : x ≤ nI n ↔ x.toInt ≤ n := by
  rw [Int32.le_iff_toInt_le, nI_toInt hn]
theorem nI_lt' {n : Nat} (hn : n < 2 ^ 31) {x : Int32} : nI n < x ↔ (n : Int) < x.toInt := by
  rw [Int32.lt_iff_toInt_lt, nI_toInt hn]
theorem vi_iff {n : Nat} (hn : n < 2 ^ 31) {x : Int32} : (vi n x).isSome = true ↔ ¬ x < 0 ∧ x < nI n := by
  rw [le0_toInt, lt_nI hn]
  unfold vi
  by_cases h : 0 ≤ x.toInt ∧ x.toInt < n
  · rw [if_pos h]
    simp
    omega
  · rw [if_neg h]
    simp
    omega
theorem vi_none {n : Nat} (hn : n < 2 ^ 31) {x : Int32} (h : x < 0 ∨ nI n ≤ x) : vi n x = none := by
  rw [le0_toInt, nI_le' hn] at h
  unfold vi
  rw [if_neg (by omega)]
theorem nI_inj {a b : Nat} (ha : a < 2 ^ 31) (hb : b < 2 ^ 31) (h : nI a = nI b) : a = b := (nI_eq ha hb).mp h
theorem nI_ne_m1 {a : Nat} (ha : a < 2 ^ 31) : ¬ nI a = -1 := by
  intro h
  have := congrArg Int32.toInt h
  rw [nI_toInt ha] at this
  have h2 : (-1 : Int32).toInt = -1 := by decide
  omega
/-! bits -/
def bits (x : Int32) (p : Nat → Bool) : Prop := ∀ k, k < 32 → x.toBitVec.getLsbD k = p k
theorem and31 {k : Nat} (hk : k < 32) : (nI k &&& 31).toBitVec.smod 32 = BitVec.ofNat 32 k := by
  revert k
  decide +kernel
theorem shr_bit (x : Int32) {k : Nat} (hk : k < 32) : (x >>> (nI k &&& 31)) &&& 1 = b2i (x.toBitVec.getLsbD k) := by
  apply Int32.toBitVec_inj.mp
  rw [Int32.toBitVec_and, Int32.toBitVec_shiftRight, and31 hk]
  have h1 : (1 : Int32).toBitVec = 1#32 := rfl
  rw [h1]
  have key : ∀ y : BitVec 32, (y.sshiftRight' (BitVec.ofNat 32 k)) &&& 1#32 = if y.getLsbD k then 1#32 else 0#32 := by
    intro y
    apply BitVec.eq_of_getLsbD_eq
    intro i hi
    rw [BitVec.getLsbD_and]
    by_cases h0 : i = 0
    · subst h0
      have : (BitVec.ofNat 32 k).toNat = k := by simp; omega
      show ((y.sshiftRight (BitVec.ofNat 32 k).toNat).getLsbD 0 && (1#32).getLsbD 0) = _
      rw [this, BitVec.getLsbD_sshiftRight]
      simp [hk]
      cases y[k] <;> rfl
    · have : (1#32).getLsbD i = false := by
        simp [BitVec.getLsbD_one]
        omega
      rw [this, Bool.and_false]
      split
      · exact this.symm
      · simp
  rw [key]
  cases x.toBitVec.getLsbD k <;> rfl
theorem bits_one {k : Nat} (hk : k < 32) : bits ((1 : Int32) <<< (nI k &&& 31)) (fun j => decide (j = k)) := by
  intro j hj
  rw [Int32.toBitVec_shiftLeft, and31 hk]
  have h1 : (1 : Int32).toBitVec = 1#32 := rfl
  rw [h1, BitVec.shiftLeft_eq', BitVec.getLsbD_shiftLeft]
  have : (BitVec.ofNat 32 k).toNat = k := by simp; omega
  rw [this]
  by_cases e : j = k
  · subst e
    simp [hj]
  · simp [e]
    intro _ _
    omega
theorem bits_or {x y : Int32} {p q : Nat → Bool} (h : bits x p) (g : bits y q) : bits (x ||| y) (fun j => p j || q j) := by
  intro j hj
  rw [Int32.toBitVec_or, BitVec.getLsbD_or, h j hj, g j hj]
theorem bits_and {x y : Int32} {p q : Nat → Bool} (h : bits x p) (g : bits y q) : bits (x &&& y) (fun j => p j && q j) := by
  intro j hj
  rw [Int32.toBitVec_and, BitVec.getLsbD_and, h j hj, g j hj]
theorem bits_not {x : Int32} {p : Nat → Bool} (h : bits x p) : bits (x ^^^ (-1)) (fun j => !(p j)) := by
  intro j hj
  rw [Int32.toBitVec_xor, BitVec.getLsbD_xor, h j hj]
  have : (-1 : Int32).toBitVec = BitVec.allOnes 32 := by decide
  rw [this, BitVec.getLsbD_allOnes]
  simp [hj]
theorem bits_to {x : Int32} {p q : Nat → Bool} (h : bits x p) (g : ∀ j, j < 32 → p j = q j) : bits x q := fun j hj => (h j hj).trans (g j hj)
theorem bits_0 : bits 0 (fun _ => false) := by
  intro j hj
  simp
theorem bits_set {x : Int32} {p : Nat → Bool} {k : Nat} (h : bits x p) (hk : k < 32) : bits (x ||| ((1 : Int32) <<< (nI k &&& 31))) (va_up p k true) :=
  bits_to (bits_or h (bits_one hk)) (fun j _ => by
    unfold va_up
    by_cases e : j = k
    · simp [e]
    · simp [e])
theorem bits_clr {x : Int32} {p : Nat → Bool} {k : Nat} (h : bits x p) (hk : k < 32) : bits (x &&& (((1 : Int32) <<< (nI k &&& 31)) ^^^ (-1))) (va_up p k false) :=
  bits_to (bits_and h (bits_not (bits_one hk))) (fun j _ => by
    unfold va_up
    by_cases e : j = k
    · simp [e]
    · simp [e])
theorem bits_nat {x : Int32} {p : Nat → Bool} {n : Nat} (h : bits x p) (hn : n ≤ 31) (hp : ∀ j, n ≤ j → p j = false) : ∃ m : Nat, m < 2 ^ n ∧ x = nI m ∧ ∀ j, j < n → m.testBit j = p j := by
  refine ⟨x.toBitVec.toNat, ?_, ?_, fun j hj => ?_⟩
  · apply Nat.lt_pow_two_of_testBit
    intro i hi
    by_cases h32 : i < 32
    · have := h i h32
      rw [hp i hi] at this
      exact this
    · exact BitVec.testBit_toNat x.toBitVec ▸ BitVec.getLsbD_of_ge _ _ (by omega)
  · apply Int32.toBitVec_inj.mp
    show x.toBitVec = (Int32.ofNat x.toBitVec.toNat).toBitVec
    simp [Int32.ofNat]
  · exact h j (by omega)
end JPURE

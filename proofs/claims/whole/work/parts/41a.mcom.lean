/-! THE MODEL: commands read -/
section JMCOM
theorem mtc_app {t : Nat → Nat} {n : Nat} (l2 : List Nat) : ∀ (l1 : List Nat) (p : Nat) (ns : List Nat), mtc t n (l1 ++ l2) p ns = if (mtc t n l1 p ns).1 = true then mtc t n l2 (mtc t n l1 p ns).2.1 (mtc t n l1 p ns).2.2 else mtc t n l1 p ns := by
  intro l1
  induction l1 with
  | nil => intro p ns; rfl
  | cons c cs ih =>
    intro p ns
    rw [List.cons_append]
    by_cases hc : c = 49 ∨ c = 50
    · cases hd : isD t n p with
      | true => rw [mt_dg hc hd, mt_dg hc hd]; exact ih _ _
      | false => rw [mt_nd hc hd, mt_nd hc hd]; rfl
    · by_cases e : p < n ∧ t p = c
      · rw [mt_yes hc e, mt_yes hc e]; exact ih _ _
      · rw [mt_no hc e, mt_no hc e]; rfl
/-- a word and a number -/
theorem mtc1 {t : Nat → Nat} {n ch : Nat} (hch : ch = 49 ∨ ch = 50) {l : List Nat} (hl : ∀ c ∈ l, ¬ (c = 49 ∨ c = 50)) (p : Nat) (ns : List Nat) : mtc t n (l ++ [ch]) p ns = if (sayP t n l p).1 = true then (if isD t n (sayP t n l p).2 = true then (true, (sayP t n l p).2 + dgs t n ch (sayP t n l p).2, ns ++ [numA t (sayP t n l p).2 (dgs t n ch (sayP t n l p).2)]) else (false, (sayP t n l p).2, ns)) else (false, (sayP t n l p).2, ns) := by
  rw [mtc_say [ch] ns l p hl]
  by_cases e : (sayP t n l p).1 = true
  · rw [if_pos e, if_pos e]
    cases hd : isD t n (sayP t n l p).2 with
    | true => rw [mt_dg hch hd, if_pos rfl]; rfl
    | false => rw [mt_nd hch hd, if_neg (by decide)]
  · rw [if_neg e, if_neg e]
theorem mtc1_s {t : Nat → Nat} {n ch : Nat} (hch : ch = 49 ∨ ch = 50) {l : List Nat} (hl : ∀ c ∈ l, ¬ (c = 49 ∨ c = 50)) (p : Nat) (ns : List Nat) :
    (if (!(sayP t n l p).1) = true then (sayP t n l p).2 else if isD t n (sayP t n l p).2 = true then (sayP t n l p).2 + dgs t n ch (sayP t n l p).2 else (sayP t n l p).2) = (mtc t n (l ++ [ch]) p ns).2.1 ∧
    (if (!(sayP t n l p).1) = true then true else !(isD t n (sayP t n l p).2)) = !(mtc t n (l ++ [ch]) p ns).1 ∧
    ((mtc t n (l ++ [ch]) p ns).1 = true → (mtc t n (l ++ [ch]) p ns).2.2 = ns ++ [if (!(sayP t n l p).1) = true then 0 else if isD t n (sayP t n l p).2 = true then numA t (sayP t n l p).2 (dgs t n ch (sayP t n l p).2) else 0]) := by
  rw [mtc1 hch hl]
  cases h1 : (sayP t n l p).1 with
  | false => exact ⟨rfl, rfl, fun z => by cases z⟩
  | true =>
    cases h2 : isD t n (sayP t n l p).2 with
    | false => exact ⟨rfl, rfl, fun z => by cases z⟩
    | true => exact ⟨rfl, rfl, fun _ => rfl⟩
def CT (f7 : Nat → Int32) (c : Nat) (cm : Nat × List Nat) : Prop := f7 (3 * c) = nI (([98, 99, 108, 116, 103, 107, 104, 114, 105] : List Nat).getD cm.1 0) ∧ f7 (3 * c + 1) = nI (cm.2.getD 0 0) ∧ ((cm.1 = 2 ∨ cm.1 = 3 ∨ cm.1 = 4 ∨ cm.1 = 6) → f7 (3 * c + 2) = nI (cm.2.getD 1 0))
end JMCOM

/-! THE MODEL: its array of numbers, and the railway that it holds -/
section JFIT
theorem oI_s (k : Nat) : oI (some k) = nI k := rfl
theorem oI_nI {o : Option Nat} {t : Nat} (h : ∀ k, o = some k → k < 2 ^ 31) (ht : t < 2 ^ 31) : oI o = nI t ↔ o = some t := by
  cases o with
  | none => exact ⟨fun e => absurd e.symm (nI_ne_m1 ht), fun e => by cases e⟩
  | some k => exact ⟨fun e => by rw [nI_inj (h k rfl) ht e], fun e => by cases e; rfl⟩
theorem b2i_1 {b : Bool} : b2i b = nI 1 ↔ b = true := by cases b <;> decide
theorem b2i_n1 {b : Bool} (h : ¬ b2i b = nI 1) : b = false := by
  cases b with
  | true => exact absurd rfl h
  | false => rfl
def hN : Option Nat → Int32
  | none => nI 0
  | some k => nI (k + 1)
theorem hN_sub (o : Option Nat) : hN o - nI 1 = oI o := by
  cases o with
  | none => decide
  | some k => exact nI_sub (by omega)
theorem va_id {α : Type} {f : Nat → α} {k : Nat} {v : α} (h : f k = v) : va_up f k v = f := funext fun j => by
  by_cases e : j = k
  · subst e; rw [up_s, h]
  · rw [up_n _ _ e]
abbrev mCell (m : Nat) (x : Nat → Int32) : Ce := .inr (9, [.int (x 0), .ref (m + 1), .ref (m + 2), .ref (m + 3), .ref (m + 4), .ref (m + 5), .int (x 6), .int (x 7), .ref (m + 6), .ref (m + 7), .ref (m + 8), .ref (m + 9), .ref (m + 10), .int (x 13), .int (x 14), .int (x 15), .int (x 16), .int (x 17), .int (x 18), .int (x 19), .int (x 20), .int (x 21)])
/-- the array f holds the railway S -/
def FitM (f : Nat → Int32) (S : St) : Prop :=
  (f 0 = nI (sNb S) ∧ f 1 = nI (sNt S) ∧ f 2 = sTk S ∧ f 3 = sAr S) ∧
  (∀ b, b < sNb S → f (4 + 4 * b + 0) = nI (sLen S b) ∧ f (4 + 4 * b + 1) = b2i (sCu S b) ∧ f (4 + 4 * b + 2) = b2i (sCa S b) ∧ f (4 + 4 * b + 3) = hN (hOf S b)) ∧
  (∀ b, b < sNb S → bits (f (60 + b)) (sLk S b)) ∧
  (∀ t, t < sNt S → f (74 + 7 * t + 0) = nI (sPl S t) ∧ f (74 + 7 * t + 1) = nI (sPr S t) ∧ f (74 + 7 * t + 2) = nI (sRe S t) ∧ f (74 + 7 * t + 3) = hN (sGo S t) ∧ f (74 + 7 * t + 4) = b2i (sOf S t) ∧ f (74 + 7 * t + 5) = sWa S t) ∧ WF S
/-- what the model's changes stand on -/
def MA (w : Wd) (m : Nat) (x : Nat → Int32) (S : St) : Prop := ∃ f g h : Nat → Int32, w.1 m = mCell m x ∧ w.1 (m + 1) = .inl (0, 116, .inl f) ∧ w.1 (m + 9) = .inl (0, 14, .inl g) ∧ w.1 (m + 10) = .inl (0, 14, .inl h) ∧ FitM f S
theorem MA.wf {w : Wd} {m : Nat} {x : Nat → Int32} {S : St} (h : MA w m x S) : WF S := by
  obtain ⟨f, g, h, mO, mS, mF, mK, hfit⟩ := h
  exact hfit.2.2.2.2
/-- the model's object, its railway and its two rows change alone -/
def FA (w w' : Wd) (m : Nat) : Prop := (∀ b : Nat, (b ≠ m ∧ b ≠ m + 1 ∧ b ≠ m + 9 ∧ b ≠ m + 10) → w'.1 b = w.1 b) ∧ w'.2.1 = w.2.1
theorem FA.rf (w : Wd) (m : Nat) : FA w w m := ⟨fun _ _ => rfl, rfl⟩
theorem FA.up {w w1 w2 : Wd} {m a : Nat} {x : Ce} (h : FA w w1 m) (u : Up w1 w2 a x) (k : a = m ∨ a = m + 1 ∨ a = m + 9 ∨ a = m + 10) (_ : 0 ≤ 0) : FA w w2 m := ⟨fun b hb => (u.2.1 b (by omega)).trans (h.1 b hb), (congrArg Prod.fst u.2.2).trans h.2⟩
theorem FA.tr {w w1 w2 : Wd} {m lo hi : Nat} (h : FA w w1 m) (u : Fr w1 w2 lo hi) (k : m + 9 ≤ lo) (k2 : hi ≤ m + 11) : FA w w2 m := ⟨fun b hb => (u.1 b (by omega)).trans (h.1 b hb), u.2.trans h.2⟩
theorem FA.trA {w w1 w2 : Wd} {m : Nat} (h : FA w w1 m) (u : FA w1 w2 m) : FA w w2 m := ⟨fun b hb => (u.1 b hb).trans (h.1 b hb), u.2.trans h.2⟩
theorem MA.fr {w w' : Wd} {m : Nat} {x : Nat → Int32} {S : St} (h : MA w m x S) {lo hi : Nat} (k : Fr w w' lo hi) (g : m + 11 ≤ lo ∨ hi ≤ m) : MA w' m x S := by
  obtain ⟨f, g, h, mO, mS, mF, mK, hfit⟩ := h
  exact ⟨f, g, h, (k.1 _ (by omega)).trans mO, (k.1 _ (by omega)).trans mS, (k.1 _ (by omega)).trans mF, (k.1 _ (by omega)).trans mK, hfit⟩
/-! elementary changes -/
def sPlc (S : St) (t b : Nat) : St := (S.1, S.2.1, (va_up (sPl S) t b, sPr S, sRe S, sGo S, sHo S, sOf S, sWa S))
def sRem (S : St) (t k : Nat) : St := (S.1, S.2.1, (sPl S, sPr S, va_up (sRe S) t k, sGo S, sHo S, sOf S, sWa S))
def sArr (S : St) : St := ((sNb S, sNt S, sTk S, sAr S + 1), S.2)
theorem wf_plc {S : St} (h : WF S) {t b : Nat} (hb : b < sNb S) (hf : tAt S b = none) : WF (sPlc S t b) := by
  obtain ⟨a1, a3, a4, a5, a6, a7, a8, a9, a10, a11⟩ := h
  have hn := tAt_none hf
  refine ⟨a1, a3, a4, a5, fun u hu => ?_, a7, a8, fun u v hu hv he => ?_, a10, a11⟩
  · have := a6 u hu
    show va_up (sPl S) t b u < sNb S ∧ 1 ≤ sPr S u ∧ sPr S u ≤ 9 ∧ sRe S u ≤ 9
    by_cases e : u = t
    · subst e; rw [up_s]; omega
    · rw [up_n _ _ e]; exact this
  · have he : va_up (sPl S) t b u = va_up (sPl S) t b v := he
    by_cases e1 : u = t
    · by_cases e2 : v = t
      · omega
      · rw [e1, up_s, up_n _ _ e2] at he; exact absurd he.symm (hn v hv)
    · by_cases e2 : v = t
      · rw [e2, up_s, up_n _ _ e1] at he; exact absurd he (hn u hu)
      · rw [up_n _ _ e1, up_n _ _ e2] at he; exact a9 u v hu hv he
theorem wf_rem {S : St} (h : WF S) {t k : Nat} (hk : k ≤ 9) : WF (sRem S t k) := by
  obtain ⟨a1, a3, a4, a5, a6, a7⟩ := h
  refine ⟨a1, a3, a4, a5, fun u hu => ?_, a7⟩
  have := a6 u hu
  refine ⟨this.1, this.2.1, this.2.2.1, ?_⟩
  show va_up (sRe S) t k u ≤ 9
  by_cases e : u = t
  · subst e; rw [up_s]; omega
  · rw [up_n _ _ e]; exact this.2.2.2
theorem hOf_is {S : St} (h : WF S) {t b : Nat} (ht : t < sNt S) (e : sHo S t = some b) : hOf S b = some t := by
  cases q : hOf S b with
  | none => exact absurd e (hOf_none q t ht)
  | some u =>
    have hu := hOf_some q
    rw [h.2.2.2.2.2.2.2.2.1 t u b ht hu.1 e hu.2]
theorem held_is {S : St} (h : WF S) {t : Nat} (ht : t < sNt S) : fnd (sNb S) (fun b => hOf S b == some t) = sHo S t := by
  have key : ∀ b, hOf S b = some t → sHo S t = some b := fun b hb => (hOf_some hb).2
  cases e : sHo S t with
  | none =>
    refine fnd_none fun j _ => ?_
    cases q : hOf S j == some t with
    | false => rfl
    | true => have := key j (by simpa using q); rw [e] at this; cases this
  | some b =>
    refine fnd_some (h.2.2.2.2.2.2.1 t ht b e) (by simpa using hOf_is h ht e) fun j hj => ?_
    cases q : hOf S j == some t with
    | false => rfl
    | true =>
      have := key j (by simpa using q)
      rw [e] at this
      cases this
      omega
theorem hOf_set {S : St} {t b : Nat} (ht : t < sNt S) (h0 : sHo S t = none) (hb : hOf S b = none) (x : Nat) : hOf (sHold S t (some b)) x = if x = b then some t else hOf S x := by
  by_cases e : x = b
  · subst e
    rw [if_pos rfl]
    refine fnd_some ht ?_ (fun j hj => ?_)
    · show (va_up (sHo S) t (some x) t == some x) = true
      rw [up_s]; simp
    · show (va_up (sHo S) t (some x) j == some x) = false
      rw [up_n _ _ (by omega)]
      have := hOf_none hb j (by omega)
      simpa using this
  · rw [if_neg e]
    refine fnd_congr (fun j hj => ?_)
    show (va_up (sHo S) t (some b) j == some x) = (sHo S j == some x)
    by_cases q : j = t
    · subst q
      rw [up_s, h0]
      have : ¬ b = x := fun z => e z.symm
      simp [this]
    · rw [up_n _ _ q]
theorem hOf_clr {S : St} (h : WF S) {t b : Nat} (ht : t < sNt S) (hb : sHo S t = some b) (x : Nat) : hOf (sHold S t none) x = if x = b then none else hOf S x := by
  by_cases e : x = b
  · subst e
    rw [if_pos rfl]
    refine fnd_none (fun j hj => ?_)
    have hj : j < sNt S := hj
    show (va_up (sHo S) t none j == some x) = false
    by_cases q : j = t
    · subst q; rw [up_s]; rfl
    · rw [up_n _ _ q]
      have : sHo S j ≠ some x := fun z => q (h.2.2.2.2.2.2.2.2.1 j t x hj ht z hb)
      simpa using this
  · rw [if_neg e]
    refine fnd_congr (fun j hj => ?_)
    show (va_up (sHo S) t none j == some x) = (sHo S j == some x)
    by_cases q : j = t
    · subst q
      rw [up_s, hb]
      have : ¬ b = x := fun z => e z.symm
      simp [this]
    · rw [up_n _ _ q]
theorem up_G {α : Type} (F : α → Int32) {f : Nat → Int32} {g : Nat → α} (i : Nat → Nat) {k j : Nat} {v : α} {x : Int32} (hi : i j = i k → j = k) (hx : x = F v) (h : f (i j) = F (g j)) : va_up f (i k) x (i j) = F (va_up g k v j) := by
  by_cases e : j = k
  · subst e; rw [up_s, up_s, hx]
  · rw [up_n _ _ e, up_n _ _ (fun q => e (hi q)), h]
theorem fit_cat {f : Nat → Int32} {S : St} (h : FitM f S) {b : Nat} (hb0 : b < sNb S) {v : Bool} {y : Int32} (hy : y = b2i v) : FitM (va_up f (4 + 4 * b + 2) y) (sCat S b v) := by
  obtain ⟨⟨c0, c1, c2, c3⟩, c4, c5, c6, hw⟩ := h
  have hnb := hw.nb
  have hnt := hw.nt
  refine ⟨⟨(up_n _ _ (by omega)).trans c0, (up_n _ _ (by omega)).trans c1, (up_n _ _ (by omega)).trans c2, (up_n _ _ (by omega)).trans c3⟩, fun b_ hb_ => ?_, fun b_ hb_ => ?_, fun u hu_ => ?_, wf_cat hw hb0 v⟩
  · have hb_ : b_ < sNb S := hb_
    have hb := c4 b_ hb_
    exact ⟨(up_n _ _ (by omega)).trans hb.1, (up_n _ _ (by omega)).trans hb.2.1, up_G b2i (fun z => 4 + 4 * z + 2) (by intro q; omega) hy (hb.2.2.1), (up_n _ _ (by omega)).trans hb.2.2.2⟩
  · have hb_ : b_ < sNb S := hb_
    rw [up_n _ _ (by omega)]
    exact c5 b_ hb_
  · have hu_ : u < sNt S := hu_
    have hu := c6 u hu_
    exact ⟨(up_n _ _ (by omega)).trans hu.1, (up_n _ _ (by omega)).trans hu.2.1, (up_n _ _ (by omega)).trans hu.2.2.1, (up_n _ _ (by omega)).trans hu.2.2.2.1, (up_n _ _ (by omega)).trans hu.2.2.2.2.1, (up_n _ _ (by omega)).trans hu.2.2.2.2.2⟩
theorem fit_go {f : Nat → Int32} {S : St} (h : FitM f S) {t : Nat} (ht : t < sNt S) {g : Option Nat} {y : Int32} (hy : y = hN g) (hg : ∀ x, g = some x → x < sNb S) : FitM (va_up f (74 + 7 * t + 3) y) (sGoal S t g) := by
  obtain ⟨⟨c0, c1, c2, c3⟩, c4, c5, c6, hw⟩ := h
  have hnb := hw.nb
  have hnt := hw.nt
  refine ⟨⟨(up_n _ _ (by omega)).trans c0, (up_n _ _ (by omega)).trans c1, (up_n _ _ (by omega)).trans c2, (up_n _ _ (by omega)).trans c3⟩, fun b_ hb_ => ?_, fun b_ hb_ => ?_, fun u hu_ => ?_, wf_goal hw hg⟩
  · have hb_ : b_ < sNb S := hb_
    have hb := c4 b_ hb_
    exact ⟨(up_n _ _ (by omega)).trans hb.1, (up_n _ _ (by omega)).trans hb.2.1, (up_n _ _ (by omega)).trans hb.2.2.1, (up_n _ _ (by omega)).trans hb.2.2.2⟩
  · have hb_ : b_ < sNb S := hb_
    rw [up_n _ _ (by omega)]
    exact c5 b_ hb_
  · have hu_ : u < sNt S := hu_
    have hu := c6 u hu_
    exact ⟨(up_n _ _ (by omega)).trans hu.1, (up_n _ _ (by omega)).trans hu.2.1, (up_n _ _ (by omega)).trans hu.2.2.1, up_G hN (fun z => 74 + 7 * z + 3) (by intro q; omega) hy (hu.2.2.2.1), (up_n _ _ (by omega)).trans hu.2.2.2.2.1, (up_n _ _ (by omega)).trans hu.2.2.2.2.2⟩
theorem fit_of {f : Nat → Int32} {S : St} (h : FitM f S) {t : Nat} (ht : t < sNt S) {v : Bool} {y : Int32} (hy : y = b2i v) : FitM (va_up f (74 + 7 * t + 4) y) (sOff S t v) := by
  obtain ⟨⟨c0, c1, c2, c3⟩, c4, c5, c6, hw⟩ := h
  have hnb := hw.nb
  have hnt := hw.nt
  refine ⟨⟨(up_n _ _ (by omega)).trans c0, (up_n _ _ (by omega)).trans c1, (up_n _ _ (by omega)).trans c2, (up_n _ _ (by omega)).trans c3⟩, fun b_ hb_ => ?_, fun b_ hb_ => ?_, fun u hu_ => ?_, wf_off hw ht v⟩
  · have hb_ : b_ < sNb S := hb_
    have hb := c4 b_ hb_
    exact ⟨(up_n _ _ (by omega)).trans hb.1, (up_n _ _ (by omega)).trans hb.2.1, (up_n _ _ (by omega)).trans hb.2.2.1, (up_n _ _ (by omega)).trans hb.2.2.2⟩
  · have hb_ : b_ < sNb S := hb_
    rw [up_n _ _ (by omega)]
    exact c5 b_ hb_
  · have hu_ : u < sNt S := hu_
    have hu := c6 u hu_
    exact ⟨(up_n _ _ (by omega)).trans hu.1, (up_n _ _ (by omega)).trans hu.2.1, (up_n _ _ (by omega)).trans hu.2.2.1, (up_n _ _ (by omega)).trans hu.2.2.2.1, up_G b2i (fun z => 74 + 7 * z + 4) (by intro q; omega) hy (hu.2.2.2.2.1), (up_n _ _ (by omega)).trans hu.2.2.2.2.2⟩
theorem fit_re {f : Nat → Int32} {S : St} (h : FitM f S) {t : Nat} (ht : t < sNt S) {k : Nat} {y : Int32} (hy : y = nI k) (hk : k ≤ 9) : FitM (va_up f (74 + 7 * t + 2) y) (sRem S t k) := by
  obtain ⟨⟨c0, c1, c2, c3⟩, c4, c5, c6, hw⟩ := h
  have hnb := hw.nb
  have hnt := hw.nt
  refine ⟨⟨(up_n _ _ (by omega)).trans c0, (up_n _ _ (by omega)).trans c1, (up_n _ _ (by omega)).trans c2, (up_n _ _ (by omega)).trans c3⟩, fun b_ hb_ => ?_, fun b_ hb_ => ?_, fun u hu_ => ?_, wf_rem hw hk⟩
  · have hb_ : b_ < sNb S := hb_
    have hb := c4 b_ hb_
    exact ⟨(up_n _ _ (by omega)).trans hb.1, (up_n _ _ (by omega)).trans hb.2.1, (up_n _ _ (by omega)).trans hb.2.2.1, (up_n _ _ (by omega)).trans hb.2.2.2⟩
  · have hb_ : b_ < sNb S := hb_
    rw [up_n _ _ (by omega)]
    exact c5 b_ hb_
  · have hu_ : u < sNt S := hu_
    have hu := c6 u hu_
    exact ⟨(up_n _ _ (by omega)).trans hu.1, (up_n _ _ (by omega)).trans hu.2.1, up_G nI (fun z => 74 + 7 * z + 2) (by intro q; omega) hy (hu.2.2.1), (up_n _ _ (by omega)).trans hu.2.2.2.1, (up_n _ _ (by omega)).trans hu.2.2.2.2.1, (up_n _ _ (by omega)).trans hu.2.2.2.2.2⟩
theorem fit_pl {f : Nat → Int32} {S : St} (h : FitM f S) {t b : Nat} (ht : t < sNt S) {y : Int32} (hy : y = nI b) (hb0 : b < sNb S) (hf : tAt S b = none) : FitM (va_up f (74 + 7 * t + 0) y) (sPlc S t b) := by
  obtain ⟨⟨c0, c1, c2, c3⟩, c4, c5, c6, hw⟩ := h
  have hnb := hw.nb
  have hnt := hw.nt
  refine ⟨⟨(up_n _ _ (by omega)).trans c0, (up_n _ _ (by omega)).trans c1, (up_n _ _ (by omega)).trans c2, (up_n _ _ (by omega)).trans c3⟩, fun b_ hb_ => ?_, fun b_ hb_ => ?_, fun u hu_ => ?_, wf_plc hw hb0 hf⟩
  · have hb_ : b_ < sNb S := hb_
    have hb := c4 b_ hb_
    exact ⟨(up_n _ _ (by omega)).trans hb.1, (up_n _ _ (by omega)).trans hb.2.1, (up_n _ _ (by omega)).trans hb.2.2.1, (up_n _ _ (by omega)).trans hb.2.2.2⟩
  · have hb_ : b_ < sNb S := hb_
    rw [up_n _ _ (by omega)]
    exact c5 b_ hb_
  · have hu_ : u < sNt S := hu_
    have hu := c6 u hu_
    exact ⟨up_G nI (fun z => 74 + 7 * z + 0) (by intro q; omega) hy (hu.1), (up_n _ _ (by omega)).trans hu.2.1, (up_n _ _ (by omega)).trans hu.2.2.1, (up_n _ _ (by omega)).trans hu.2.2.2.1, (up_n _ _ (by omega)).trans hu.2.2.2.2.1, (up_n _ _ (by omega)).trans hu.2.2.2.2.2⟩
theorem fit_wa {f : Nat → Int32} {S : St} (h : FitM f S) {t : Nat} (ht : t < sNt S) {y : Int32} (hy : y = sWa S t + 1) : FitM (va_up f (74 + 7 * t + 5) y) (sWait S t) := by
  obtain ⟨⟨c0, c1, c2, c3⟩, c4, c5, c6, hw⟩ := h
  have hnb := hw.nb
  have hnt := hw.nt
  refine ⟨⟨(up_n _ _ (by omega)).trans c0, (up_n _ _ (by omega)).trans c1, (up_n _ _ (by omega)).trans c2, (up_n _ _ (by omega)).trans c3⟩, fun b_ hb_ => ?_, fun b_ hb_ => ?_, fun u hu_ => ?_, hw⟩
  · have hb_ : b_ < sNb S := hb_
    have hb := c4 b_ hb_
    exact ⟨(up_n _ _ (by omega)).trans hb.1, (up_n _ _ (by omega)).trans hb.2.1, (up_n _ _ (by omega)).trans hb.2.2.1, (up_n _ _ (by omega)).trans hb.2.2.2⟩
  · have hb_ : b_ < sNb S := hb_
    rw [up_n _ _ (by omega)]
    exact c5 b_ hb_
  · have hu_ : u < sNt S := hu_
    have hu := c6 u hu_
    exact ⟨(up_n _ _ (by omega)).trans hu.1, (up_n _ _ (by omega)).trans hu.2.1, (up_n _ _ (by omega)).trans hu.2.2.1, (up_n _ _ (by omega)).trans hu.2.2.2.1, (up_n _ _ (by omega)).trans hu.2.2.2.2.1, up_G (fun z => z) (fun z => 74 + 7 * z + 5) (by intro q; omega) hy (hu.2.2.2.2.2)⟩
theorem fit_tk {f : Nat → Int32} {S : St} (h : FitM f S) {y : Int32} (hy : y = sTk S + 1) : FitM (va_up f (2) y) (sTick S) := by
  obtain ⟨⟨c0, c1, c2, c3⟩, c4, c5, c6, hw⟩ := h
  have hnb := hw.nb
  have hnt := hw.nt
  refine ⟨⟨(up_n _ _ (by omega)).trans c0, (up_n _ _ (by omega)).trans c1, (up_s _ _ _).trans hy, (up_n _ _ (by omega)).trans c3⟩, fun b_ hb_ => ?_, fun b_ hb_ => ?_, fun u hu_ => ?_, hw⟩
  · have hb_ : b_ < sNb S := hb_
    have hb := c4 b_ hb_
    exact ⟨(up_n _ _ (by omega)).trans hb.1, (up_n _ _ (by omega)).trans hb.2.1, (up_n _ _ (by omega)).trans hb.2.2.1, (up_n _ _ (by omega)).trans hb.2.2.2⟩
  · have hb_ : b_ < sNb S := hb_
    rw [up_n _ _ (by omega)]
    exact c5 b_ hb_
  · have hu_ : u < sNt S := hu_
    have hu := c6 u hu_
    exact ⟨(up_n _ _ (by omega)).trans hu.1, (up_n _ _ (by omega)).trans hu.2.1, (up_n _ _ (by omega)).trans hu.2.2.1, (up_n _ _ (by omega)).trans hu.2.2.2.1, (up_n _ _ (by omega)).trans hu.2.2.2.2.1, (up_n _ _ (by omega)).trans hu.2.2.2.2.2⟩
theorem fit_ar {f : Nat → Int32} {S : St} (h : FitM f S) {y : Int32} (hy : y = sAr S + 1) : FitM (va_up f (3) y) (sArr S) := by
  obtain ⟨⟨c0, c1, c2, c3⟩, c4, c5, c6, hw⟩ := h
  have hnb := hw.nb
  have hnt := hw.nt
  refine ⟨⟨(up_n _ _ (by omega)).trans c0, (up_n _ _ (by omega)).trans c1, (up_n _ _ (by omega)).trans c2, (up_s _ _ _).trans hy⟩, fun b_ hb_ => ?_, fun b_ hb_ => ?_, fun u hu_ => ?_, hw⟩
  · have hb_ : b_ < sNb S := hb_
    have hb := c4 b_ hb_
    exact ⟨(up_n _ _ (by omega)).trans hb.1, (up_n _ _ (by omega)).trans hb.2.1, (up_n _ _ (by omega)).trans hb.2.2.1, (up_n _ _ (by omega)).trans hb.2.2.2⟩
  · have hb_ : b_ < sNb S := hb_
    rw [up_n _ _ (by omega)]
    exact c5 b_ hb_
  · have hu_ : u < sNt S := hu_
    have hu := c6 u hu_
    exact ⟨(up_n _ _ (by omega)).trans hu.1, (up_n _ _ (by omega)).trans hu.2.1, (up_n _ _ (by omega)).trans hu.2.2.1, (up_n _ _ (by omega)).trans hu.2.2.2.1, (up_n _ _ (by omega)).trans hu.2.2.2.2.1, (up_n _ _ (by omega)).trans hu.2.2.2.2.2⟩
theorem fit_hs {f : Nat → Int32} {S : St} (h : FitM f S) {t b : Nat} (ht : t < sNt S) (hb0 : b < sNb S) (h0 : sHo S t = none) (h1 : hOf S b = none) {y : Int32} (hy : y = nI (t + 1)) : FitM (va_up f (4 + 4 * b + 3) y) (sHold S t (some b)) := by
  obtain ⟨⟨c0, c1, c2, c3⟩, c4, c5, c6, hw⟩ := h
  have hnb := hw.nb
  have hnt := hw.nt
  have hho : ∀ b_, f (4 + 4 * b_ + 3) = hN (hOf S b_) → va_up f (4 + 4 * b + 3) y (4 + 4 * b_ + 3) = hN (hOf (sHold S t (some b)) b_) := by
    intro b_ e
    rw [hOf_set ht h0 h1]
    by_cases q : b_ = b
    · subst q; rw [up_s, if_pos rfl, hy]; rfl
    · rw [up_n _ _ (by omega), if_neg q, e]
  refine ⟨⟨(up_n _ _ (by omega)).trans c0, (up_n _ _ (by omega)).trans c1, (up_n _ _ (by omega)).trans c2, (up_n _ _ (by omega)).trans c3⟩, fun b_ hb_ => ?_, fun b_ hb_ => ?_, fun u hu_ => ?_, wf_hold hw (fun x e => by cases e; exact ⟨hb0, fun u hu _ => hOf_none h1 u hu⟩)⟩
  · have hb_ : b_ < sNb S := hb_
    have hb := c4 b_ hb_
    exact ⟨(up_n _ _ (by omega)).trans hb.1, (up_n _ _ (by omega)).trans hb.2.1, (up_n _ _ (by omega)).trans hb.2.2.1, (hho b_ hb.2.2.2)⟩
  · have hb_ : b_ < sNb S := hb_
    rw [up_n _ _ (by omega)]
    exact c5 b_ hb_
  · have hu_ : u < sNt S := hu_
    have hu := c6 u hu_
    exact ⟨(up_n _ _ (by omega)).trans hu.1, (up_n _ _ (by omega)).trans hu.2.1, (up_n _ _ (by omega)).trans hu.2.2.1, (up_n _ _ (by omega)).trans hu.2.2.2.1, (up_n _ _ (by omega)).trans hu.2.2.2.2.1, (up_n _ _ (by omega)).trans hu.2.2.2.2.2⟩
theorem fit_hc {f : Nat → Int32} {S : St} (h : FitM f S) {t b : Nat} (ht : t < sNt S) (h0 : sHo S t = some b) {y : Int32} (hy : y = nI 0) : FitM (va_up f (4 + 4 * b + 3) y) (sHold S t none) := by
  obtain ⟨⟨c0, c1, c2, c3⟩, c4, c5, c6, hw⟩ := h
  have hnb := hw.nb
  have hnt := hw.nt
  have hb0 := hw.2.2.2.2.2.2.1 t ht b h0
  have hho : ∀ b_, f (4 + 4 * b_ + 3) = hN (hOf S b_) → va_up f (4 + 4 * b + 3) y (4 + 4 * b_ + 3) = hN (hOf (sHold S t none) b_) := by
    intro b_ e
    rw [hOf_clr hw ht h0]
    by_cases q : b_ = b
    · subst q; rw [up_s, if_pos rfl, hy]; rfl
    · rw [up_n _ _ (by omega), if_neg q, e]
  refine ⟨⟨(up_n _ _ (by omega)).trans c0, (up_n _ _ (by omega)).trans c1, (up_n _ _ (by omega)).trans c2, (up_n _ _ (by omega)).trans c3⟩, fun b_ hb_ => ?_, fun b_ hb_ => ?_, fun u hu_ => ?_, wf_hold hw (fun x e => by cases e)⟩
  · have hb_ : b_ < sNb S := hb_
    have hb := c4 b_ hb_
    exact ⟨(up_n _ _ (by omega)).trans hb.1, (up_n _ _ (by omega)).trans hb.2.1, (up_n _ _ (by omega)).trans hb.2.2.1, (hho b_ hb.2.2.2)⟩
  · have hb_ : b_ < sNb S := hb_
    rw [up_n _ _ (by omega)]
    exact c5 b_ hb_
  · have hu_ : u < sNt S := hu_
    have hu := c6 u hu_
    exact ⟨(up_n _ _ (by omega)).trans hu.1, (up_n _ _ (by omega)).trans hu.2.1, (up_n _ _ (by omega)).trans hu.2.2.1, (up_n _ _ (by omega)).trans hu.2.2.2.1, (up_n _ _ (by omega)).trans hu.2.2.2.2.1, (up_n _ _ (by omega)).trans hu.2.2.2.2.2⟩
theorem fit_lk {f : Nat → Int32} {S : St} (h : FitM f S) {a b : Nat} (ha : a < sNb S) (hb0 : b < sNb S) (hab : a ≠ b) {v : Bool} {y z : Int32} (hy : bits y (va_up (sLk S a) b v)) (hz : bits z (va_up (sLk S b) a v)) : FitM (va_up (va_up f (60 + a) y) (60 + b) z) (sLink S a b v) := by
  obtain ⟨⟨c0, c1, c2, c3⟩, c4, c5, c6, hw⟩ := h
  have hnb := hw.nb
  have hnt := hw.nt
  have U : ∀ i, i ≠ 60 + a → i ≠ 60 + b → va_up (va_up f (60 + a) y) (60 + b) z i = f i := fun i h1 h2 => by rw [up_n _ _ h2, up_n _ _ h1]
  refine ⟨⟨(U _ (by omega) (by omega)).trans c0, (U _ (by omega) (by omega)).trans c1, (U _ (by omega) (by omega)).trans c2, (U _ (by omega) (by omega)).trans c3⟩, fun b_ hb_ => ?_, fun b_ hb_ => ?_, fun u hu_ => ?_, wf_link hw ha hb0 hab v⟩
  · have hb_ : b_ < sNb S := hb_
    have hb := c4 b_ hb_
    exact ⟨(U _ (by omega) (by omega)).trans hb.1, (U _ (by omega) (by omega)).trans hb.2.1, (U _ (by omega) (by omega)).trans hb.2.2.1, (U _ (by omega) (by omega)).trans hb.2.2.2⟩
  · have hb_ : b_ < sNb S := hb_
    show bits _ (va_up (va_up (sLk S) a (va_up (sLk S a) b v)) b (va_up (sLk S b) a v) b_)
    by_cases e1 : b_ = b
    · subst e1; rw [up_s, up_s]; exact hz
    · rw [up_n _ _ (by omega), up_n _ _ e1]
      by_cases e2 : b_ = a
      · subst e2; rw [up_s, up_s]; exact hy
      · rw [up_n _ _ (by omega), up_n _ _ e2]; exact c5 b_ hb_
  · have hu_ : u < sNt S := hu_
    have hu := c6 u hu_
    exact ⟨(U _ (by omega) (by omega)).trans hu.1, (U _ (by omega) (by omega)).trans hu.2.1, (U _ (by omega) (by omega)).trans hu.2.2.1, (U _ (by omega) (by omega)).trans hu.2.2.2.1, (U _ (by omega) (by omega)).trans hu.2.2.2.2.1, (U _ (by omega) (by omega)).trans hu.2.2.2.2.2⟩
theorem hOf_high {S : St} (h : WF S) : hOf S (sNb S) = none := fnd_none fun j hj => by
  cases q : sHo S j == some (sNb S) with
  | false => rfl
  | true => have := h.2.2.2.2.2.2.1 j hj _ (by simpa using q); omega
theorem fit_add {f f' : Nat → Int32} {S : St} (h : FitM f S) (hb0 : sNb S < 14) {k : Nat} (h1 : 1 ≤ k) (h2 : k ≤ 9) {c : Bool} (hU : ∀ i, i ≠ 0 → (i < 4 + 4 * sNb S ∨ 4 + 4 * sNb S + 3 < i) → i ≠ 60 + sNb S → f' i = f i)
    (g0 : f' 0 = nI (sNb S + 1)) (g1 : f' (4 + 4 * sNb S + 0) = nI k) (g2 : f' (4 + 4 * sNb S + 1) = b2i c) (g3 : f' (4 + 4 * sNb S + 2) = nI 0) (g4 : f' (4 + 4 * sNb S + 3) = nI 0) (g5 : f' (60 + sNb S) = nI 0) : FitM f' (sAdd S k c) := by
  obtain ⟨⟨c0, c1, c2, c3⟩, c4, c5, c6, hw⟩ := h
  have hnt := hw.nt
  refine ⟨⟨g0, (hU _ (by omega) (by omega) (by omega)).trans c1, (hU _ (by omega) (by omega) (by omega)).trans c2, (hU _ (by omega) (by omega) (by omega)).trans c3⟩, fun b_ hb_ => ?_, fun b_ hb_ => ?_, fun u hu_ => ?_, wf_add hw hb0 h1 h2 c⟩
  · have hb_ : b_ < sNb S + 1 := hb_
    show f' (4 + 4 * b_ + 0) = nI (va_up (sLen S) (sNb S) k b_) ∧ f' (4 + 4 * b_ + 1) = b2i (va_up (sCu S) (sNb S) c b_) ∧ f' (4 + 4 * b_ + 2) = b2i (sCa S b_) ∧ f' (4 + 4 * b_ + 3) = hN (hOf S b_)
    by_cases e : b_ = sNb S
    · subst e
      rw [up_s, up_s, (hw.2.2.1 _ (Nat.le_refl _)).2, hOf_high hw]
      exact ⟨g1, g2, g3, g4⟩
    · rw [up_n _ _ e, up_n _ _ e]
      have hb := c4 b_ (by omega)
      exact ⟨(hU _ (by omega) (by omega) (by omega)).trans hb.1, (hU _ (by omega) (by omega) (by omega)).trans hb.2.1, (hU _ (by omega) (by omega) (by omega)).trans hb.2.2.1, (hU _ (by omega) (by omega) (by omega)).trans hb.2.2.2⟩
  · have hb_ : b_ < sNb S + 1 := hb_
    show bits (f' (60 + b_)) (sLk S b_)
    by_cases e : b_ = sNb S
    · subst e
      rw [g5]
      refine bits_to bits_0 fun j _ => ?_
      cases q : sLk S (sNb S) j with
      | false => rfl
      | true => have := (hw.2.2.2.1 _ _ q).1; omega
    · rw [hU _ (by omega) (by omega) (by omega)]
      exact c5 b_ (by omega)
  · have hu_ : u < sNt S := hu_
    have hu := c6 u hu_
    exact ⟨(hU _ (by omega) (by omega) (by omega)).trans hu.1, (hU _ (by omega) (by omega) (by omega)).trans hu.2.1, (hU _ (by omega) (by omega) (by omega)).trans hu.2.2.1, (hU _ (by omega) (by omega) (by omega)).trans hu.2.2.2.1, (hU _ (by omega) (by omega) (by omega)).trans hu.2.2.2.2.1, (hU _ (by omega) (by omega) (by omega)).trans hu.2.2.2.2.2⟩
theorem hOf_train {S : St} {b k : Nat} (x : Nat) : hOf (sTrain S b k) x = hOf S x := by
  cases e : hOf S x with
  | none =>
    refine fnd_none fun j hj => ?_
    have hj : j < sNt S + 1 := hj
    show (va_up (sHo S) (sNt S) none j == some x) = false
    by_cases q : j = sNt S
    · subst q; rw [up_s]; rfl
    · rw [up_n _ _ q]
      have := hOf_none e j (by omega)
      simpa using this
  | some u =>
    obtain ⟨h1, h2, h3⟩ := fnd_is e
    refine fnd_some (show u < sNt S + 1 by omega) ?_ fun j hj => ?_
    · show (va_up (sHo S) (sNt S) none u == some x) = true
      rw [up_n _ _ (by omega)]; exact h2
    · show (va_up (sHo S) (sNt S) none j == some x) = false
      rw [up_n _ _ (by omega)]; exact h3 j hj
theorem fit_train {f f' : Nat → Int32} {S : St} (h : FitM f S) {b k : Nat} (hb0 : b < sNb S) (h1 : 1 ≤ k) (h2 : k ≤ 9) (ht : sNt S < 6) (hf : tAt S b = none) (hU : ∀ i, i ≠ 1 → (i < 74 + 7 * sNt S ∨ 74 + 7 * sNt S + 6 < i) → f' i = f i)
    (g0 : f' 1 = nI (sNt S + 1)) (g1 : f' (74 + 7 * sNt S + 0) = nI b) (g2 : f' (74 + 7 * sNt S + 1) = nI k) (g3 : ∀ j, 2 ≤ j → j < 7 → f' (74 + 7 * sNt S + j) = nI 0) : FitM f' (sTrain S b k) := by
  obtain ⟨⟨c0, c1, c2, c3⟩, c4, c5, c6, hw⟩ := h
  have hnb := hw.nb
  refine ⟨⟨(hU _ (by omega) (by omega)).trans c0, g0, (hU _ (by omega) (by omega)).trans c2, (hU _ (by omega) (by omega)).trans c3⟩, fun b_ hb_ => ?_, fun b_ hb_ => ?_, fun u hu_ => ?_, wf_train hw hb0 h1 h2 ht hf⟩
  · have hb_ : b_ < sNb S := hb_
    have hb := c4 b_ hb_
    rw [hOf_train]
    exact ⟨(hU _ (by omega) (by omega)).trans hb.1, (hU _ (by omega) (by omega)).trans hb.2.1, (hU _ (by omega) (by omega)).trans hb.2.2.1, (hU _ (by omega) (by omega)).trans hb.2.2.2⟩
  · have hb_ : b_ < sNb S := hb_
    rw [hU _ (by omega) (by omega)]
    exact c5 b_ hb_
  · have hu_ : u < sNt S + 1 := hu_
    show f' (74 + 7 * u + 0) = nI (va_up (sPl S) (sNt S) b u) ∧ f' (74 + 7 * u + 1) = nI (va_up (sPr S) (sNt S) k u) ∧ f' (74 + 7 * u + 2) = nI (va_up (sRe S) (sNt S) 0 u) ∧ f' (74 + 7 * u + 3) = hN (va_up (sGo S) (sNt S) none u) ∧ f' (74 + 7 * u + 4) = b2i (sOf S u) ∧ f' (74 + 7 * u + 5) = va_up (sWa S) (sNt S) 0 u
    by_cases e : u = sNt S
    · subst e
      rw [up_s, up_s, up_s, up_s, up_s, hw.2.2.2.2.2.2.2.2.2 _ (Nat.le_refl _)]
      exact ⟨g1, g2, g3 2 (by omega) (by omega), g3 3 (by omega) (by omega), g3 4 (by omega) (by omega), g3 5 (by omega) (by omega)⟩
    · rw [up_n _ _ e, up_n _ _ e, up_n _ _ e, up_n _ _ e, up_n _ _ e]
      have hu := c6 u (by omega)
      exact ⟨(hU _ (by omega) (by omega)).trans hu.1, (hU _ (by omega) (by omega)).trans hu.2.1, (hU _ (by omega) (by omega)).trans hu.2.2.1, (hU _ (by omega) (by omega)).trans hu.2.2.2.1, (hU _ (by omega) (by omega)).trans hu.2.2.2.2.1, (hU _ (by omega) (by omega)).trans hu.2.2.2.2.2⟩
theorem fit_kept {f f' : Nat → Int32} {S : St} (h : FitM f S) (k : ∀ i, i < 116 → f' i = f i) : FitM f' S := by
  obtain ⟨⟨c0, c1, c2, c3⟩, c4, c5, c6, hw⟩ := h
  have hnb := hw.nb
  have hnt := hw.nt
  refine ⟨⟨(k _ (by omega)).trans c0, (k _ (by omega)).trans c1, (k _ (by omega)).trans c2, (k _ (by omega)).trans c3⟩, fun b_ hb_ => ?_, fun b_ hb_ => ?_, fun u hu_ => ?_, hw⟩
  · have hb := c4 b_ hb_
    exact ⟨(k _ (by omega)).trans hb.1, (k _ (by omega)).trans hb.2.1, (k _ (by omega)).trans hb.2.2.1, (k _ (by omega)).trans hb.2.2.2⟩
  · rw [k _ (by omega)]
    exact c5 b_ hb_
  · have hu := c6 u hu_
    exact ⟨(k _ (by omega)).trans hu.1, (k _ (by omega)).trans hu.2.1, (k _ (by omega)).trans hu.2.2.1, (k _ (by omega)).trans hu.2.2.2.1, (k _ (by omega)).trans hu.2.2.2.2.1, (k _ (by omega)).trans hu.2.2.2.2.2⟩
/-! how a train moves, in steps -/
def sMov0 (S : St) (t b : Nat) : St := (S.1, (sLen S, sCu S, va_up (sCa S) b false, sLk S), (va_up (sPl S) t b, sPr S, va_up (sRe S) t (sLen S b), sGo S, va_up (sHo S) t none, (if sCa S b = true then va_up (sOf S) t true else sOf S), sWa S))
theorem mov_go {S : St} {t b : Nat} (h : sGo S t = some b) : sMove S t b = sArr (sGoal (sMov0 S t b) t none) := by
  unfold sMove
  rw [if_pos h, if_pos h]
  rfl
theorem mov_ng {S : St} {t b : Nat} (h : ¬ sGo S t = some b) : sMove S t b = sMov0 S t b := by
  unfold sMove
  rw [if_neg h, if_neg h]
  rfl
theorem mov_ca {S : St} {t b : Nat} (h : sCa S b = true) : sCat (sOff (sRem (sPlc (sHold S t none) t b) t (sLen S b)) t true) b false = sMov0 S t b := by
  unfold sMov0
  rw [if_pos h]
  rfl
theorem mov_nc {S : St} {t b : Nat} (h : sCa S b = false) : sRem (sPlc (sHold S t none) t b) t (sLen S b) = sMov0 S t b := by
  unfold sMov0
  rw [if_neg (by rw [h]; decide), va_id h]
  rfl
theorem hold_id {S : St} {t : Nat} (h : sHo S t = none) : sHold S t none = S := by
  unfold sHold
  rw [va_id h]
  rfl
theorem rem_less (S : St) (t : Nat) : sRem S t (sRe S t - 1) = sLess S t := rfl
/-! ways to a goal, relaxed -/
def sm (v : Nat → Nat) : Nat → Nat
  | 0 => 0
  | n + 1 => sm v n + v n
theorem sm_le {v v' : Nat → Nat} : ∀ n, (∀ j, j < n → v' j ≤ v j) → sm v' n ≤ sm v n := by
  intro n
  induction n with
  | zero => intro _; exact Nat.le_refl _
  | succ n ih =>
    intro h
    have := ih fun j hj => h j (by omega)
    have := h n (by omega)
    show sm v' n + v' n ≤ sm v n + v n
    omega
theorem sm_lt {v v' : Nat → Nat} : ∀ n i, (∀ j, j < n → v' j ≤ v j) → i < n → v' i < v i → sm v' n < sm v n := by
  intro n
  induction n with
  | zero => intro i _ h; omega
  | succ n ih =>
    intro i h hi hl
    show sm v' n + v' n < sm v n + v n
    by_cases e : i = n
    · subst e
      have := sm_le (v := v) (v' := v') i fun j hj => h j (by omega)
      omega
    · have := ih i (fun j hj => h j (by omega)) (by omega) hl
      have := h n (by omega)
      omega
def WOk (S : St) (q : Nat) (v : Nat → Nat) : Prop := v q = 0 ∧ (∀ b, b < sNb S → v b < 9999 → Rch (sLen S) (sLk S) b q (v b)) ∧ ∀ b, b < sNb S → v b ≤ 9999
def row9 (q : Nat) : Nat → Nat := fun b => if b = q then 0 else 9999
theorem wok_0 {S : St} {q : Nat} : WOk S q (row9 q) := by
  refine ⟨if_pos rfl, fun b _ h => ?_, fun b _ => ?_⟩
  · unfold row9 at h ⊢
    by_cases e : b = q
    · subst e; rw [if_pos rfl]; exact Rch.self _
    · rw [if_neg e] at h; omega
  · unfold row9
    split <;> omega
theorem wok_s {S : St} {q a b : Nat} {v : Nat → Nat} (h : WOk S q v) (hb : b < sNb S) (hl : sLk S a b = true) (hlt : v b + sLen S b < v a) (ha : a < sNb S) : WOk S q (va_up v a (v b + sLen S b)) := by
  obtain ⟨h1, h2, h3⟩ := h
  have h3a := h3 a ha
  have hne : ¬ q = a := fun e => by subst e; omega
  refine ⟨(up_n _ _ hne).trans h1, fun c hc hh => ?_, fun c hc => ?_⟩
  · by_cases e : c = a
    · subst e
      rw [up_s]
      exact Rch.cons hl (h2 b hb (by omega))
    · rw [up_n _ _ e] at hh ⊢
      exact h2 c hc hh
  · by_cases e : c = a
    · subst e; rw [up_s]; omega
    · rw [up_n _ _ e]; exact h3 c hc
/-- the pairs that lie ahead of (a, b) are done -/
def WD (S : St) (v : Nat → Nat) (a b : Nat) : Prop := ∀ x y, sLk S x y = true → (x < a ∨ x = a ∧ y < b) → v x ≤ v y + sLen S y
def WI (S : St) (q : Nat) (v0 v : Nat → Nat) (sh : Bool) (a b : Nat) : Prop := WOk S q v ∧ (sh = false → sm v (sNb S) = sm v0 (sNb S) ∧ WD S v a b) ∧ (sh = true → sm v (sNb S) < sm v0 (sNb S))
theorem wi_0 {S : St} {q : Nat} {v : Nat → Nat} (h : WOk S q v) : WI S q v v false 0 0 := ⟨h, fun _ => ⟨rfl, fun x y _ k => by omega⟩, fun e => by cases e⟩
theorem wi_row {S : St} {q a : Nat} {v0 v : Nat → Nat} {sh : Bool} (hw : WF S) (h : WI S q v0 v sh a (sNb S)) : WI S q v0 v sh (a + 1) 0 := ⟨h.1, fun e => ⟨(h.2.1 e).1, fun x y hl k => by
  have := (hw.2.2.2.1 x y hl).2.1
  exact (h.2.1 e).2 x y hl (by omega)⟩, h.2.2⟩
theorem wi_no {S : St} {q a b : Nat} {v0 v : Nat → Nat} {sh : Bool} (h : WI S q v0 v sh a b) (k : sLk S a b = false ∨ v a ≤ v b + sLen S b) : WI S q v0 v sh a (b + 1) := ⟨h.1, fun e => ⟨(h.2.1 e).1, fun x y hl z => by
  by_cases q : x = a ∧ y = b
  · obtain ⟨rfl, rfl⟩ := q
    rcases k with k | k
    · rw [k] at hl; cases hl
    · exact k
  · exact (h.2.1 e).2 x y hl (by omega)⟩, h.2.2⟩
theorem wi_yes {S : St} {q a b : Nat} {v0 v : Nat → Nat} {sh : Bool} (h : WI S q v0 v sh a b) (ha : a < sNb S) (hb : b < sNb S) (hl : sLk S a b = true) (hlt : v b + sLen S b < v a) : WI S q v0 (va_up v a (v b + sLen S b)) true a (b + 1) := by
  refine ⟨wok_s h.1 hb hl hlt ha, (fun e => by cases e), fun _ => ?_⟩
  have h1 : sm (va_up v a (v b + sLen S b)) (sNb S) < sm v (sNb S) := sm_lt _ a (fun j _ => by
    by_cases e : j = a
    · subst e; rw [up_s]; omega
    · rw [up_n _ _ e]; exact Nat.le_refl _) ha (by rw [up_s]; exact hlt)
  cases e : sh with
  | false => have := (h.2.1 e).1; omega
  | true => have := h.2.2 e; omega
theorem wi_end {S : St} {q : Nat} {v0 v : Nat → Nat} (hw : WF S) (hq : q < sNb S) (h : WI S q v0 v false (sNb S) 0) : ∀ b, b < sNb S → v b = dF 9999 (dS S b q) := by
  have hd := (h.2.1 rfl).2
  refine row_to (by omega) hw.nb (fun a b e => ⟨(hw.2.2.2.1 a b e).1, (hw.2.2.2.1 a b e).2.1⟩) hw.2.1 hq h.1.1 (fun a b e => hd a b e (Or.inl (hw.2.2.2.1 a b e).1)) h.1.2.1 h.1.2.2
end JFIT

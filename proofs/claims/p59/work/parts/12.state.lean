/-! THE RAILWAY AS A VALUE, and the layout that holds it -/
section JSTATE
/-- the railway -/
abbrev St : Type := (Nat × Nat × Int32 × Int32) × ((Nat → Nat) × (Nat → Bool) × (Nat → Bool) × (Nat → Nat → Bool)) × ((Nat → Nat) × (Nat → Nat) × (Nat → Nat) × (Nat → Option Nat) × (Nat → Option Nat) × (Nat → Bool) × (Nat → Int32))
def sNb (S : St) : Nat := S.1.1
def sNt (S : St) : Nat := S.1.2.1
def sTk (S : St) : Int32 := S.1.2.2.1
def sAr (S : St) : Int32 := S.1.2.2.2
def sLen (S : St) : Nat → Nat := S.2.1.1
def sCu (S : St) : Nat → Bool := S.2.1.2.1
def sCa (S : St) : Nat → Bool := S.2.1.2.2.1
def sLk (S : St) : Nat → Nat → Bool := S.2.1.2.2.2
def sPl (S : St) : Nat → Nat := S.2.2.1
def sPr (S : St) : Nat → Nat := S.2.2.2.1
def sRe (S : St) : Nat → Nat := S.2.2.2.2.1
def sGo (S : St) : Nat → Option Nat := S.2.2.2.2.2.1
def sHo (S : St) : Nat → Option Nat := S.2.2.2.2.2.2.1
def sOf (S : St) : Nat → Bool := S.2.2.2.2.2.2.2.1
def sWa (S : St) : Nat → Int32 := S.2.2.2.2.2.2.2.2
/-- what holds of every railway that is reached -/
def WF (S : St) : Prop :=
  (sNb S ≤ 14 ∧ sNt S ≤ 6) ∧ (∀ b, b < sNb S → 1 ≤ sLen S b ∧ sLen S b ≤ 9) ∧ (∀ b, sNb S ≤ b → sCu S b = false ∧ sCa S b = false) ∧
  (∀ a b, sLk S a b = true → a < sNb S ∧ b < sNb S ∧ a ≠ b ∧ sLk S b a = true) ∧
  (∀ t, t < sNt S → sPl S t < sNb S ∧ 1 ≤ sPr S t ∧ sPr S t ≤ 9 ∧ sRe S t ≤ 9) ∧ (∀ t, t < sNt S → ∀ g, sGo S t = some g → g < sNb S) ∧ (∀ t, t < sNt S → ∀ b, sHo S t = some b → b < sNb S) ∧
  (∀ t u, t < sNt S → u < sNt S → sPl S t = sPl S u → t = u) ∧ (∀ t u b, t < sNt S → u < sNt S → sHo S t = some b → sHo S u = some b → t = u) ∧ (∀ t, sNt S ≤ t → sOf S t = false)
theorem WF.nb {S : St} (h : WF S) : sNb S ≤ 14 := h.1.1
theorem WF.nt {S : St} (h : WF S) : sNt S ≤ 6 := h.1.2
/-- the layout at a holds the railway S -/
def RepC (w : Wd) (a : Nat) (S : St) : Prop :=
  ∃ (x4 x5 x6 : Int32) (f1 f2 f3 f4 f5 f6 f7 f8 : Nat → Int32),
    w.1 a = .inr (4, [.int (nI (sNb S)), .int (nI (sNt S)), .int (sTk S), .int (sAr S), .int x4, .int x5, .int x6, .ref (a + 1), .ref (a + 2), .ref (a + 3), .ref (a + 4), .ref (a + 5), .ref (a + 6), .ref (a + 7), .ref (a + 8)]) ∧
    (w.1 (a + 1) = .inl (0, 14, .inl f1) ∧ w.1 (a + 2) = .inl (0, 14, .inl f2) ∧ w.1 (a + 3) = .inl (0, 6, .inl f3) ∧ w.1 (a + 4) = .inl (0, 6, .inl f4) ∧ w.1 (a + 5) = .inl (0, 6, .inl f5) ∧ w.1 (a + 6) = .inl (0, 6, .inl f6) ∧ w.1 (a + 7) = .inl (0, 6, .inl f7) ∧ w.1 (a + 8) = .inl (0, 6, .inl f8)) ∧
    (bits x4 (sCu S) ∧ bits x5 (sCa S) ∧ bits x6 (sOf S)) ∧ (∀ b, b < sNb S → f1 b = nI (sLen S b)) ∧ (∀ b, b < 14 → bits (f2 b) (sLk S b)) ∧
    (∀ t, t < sNt S → f3 t = nI (sPl S t) ∧ f4 t = nI (sPr S t) ∧ f5 t = nI (sRe S t) ∧ f6 t = oI (sGo S t) ∧ f7 t = oI (sHo S t) ∧ f8 t = sWa S t) ∧ WF S
/-- w' is w but for the cells from lo on, ahead of hi -/
def Fr (w w' : Wd) (lo hi : Nat) : Prop := (∀ b : Nat, b < lo ∨ hi ≤ b → w'.1 b = w.1 b) ∧ w'.2.1 = w.2.1
theorem Fr.rf (w : Wd) (lo hi : Nat) : Fr w w lo hi := ⟨fun _ _ => rfl, rfl⟩
theorem Fr.up {w w1 w2 : Wd} {lo hi a : Nat} {x : Ce} (h : Fr w w1 lo hi) (u : Up w1 w2 a x) (h1 : lo ≤ a) (h2 : a < hi) : Fr w w2 lo hi := ⟨fun b hb => (u.2.1 b (by omega)).trans (h.1 b hb), (congrArg Prod.fst u.2.2).trans h.2⟩
theorem Fr.tr {w w1 w2 : Wd} {lo hi l2 h2 : Nat} (h : Fr w w1 lo hi) (u : Fr w1 w2 l2 h2) (g1 : lo ≤ l2) (g2 : h2 ≤ hi) : Fr w w2 lo hi := ⟨fun b hb => (u.1 b (by omega)).trans (h.1 b hb), u.2.trans h.2⟩
theorem Fr.wd {w w1 : Wd} {lo hi l2 h2 : Nat} (h : Fr w w1 lo hi) (g1 : l2 ≤ lo) (g2 : hi ≤ h2) : Fr w w1 l2 h2 := ⟨fun b hb => h.1 b (by omega), h.2⟩
theorem RepC.kept {w w' : Wd} {a : Nat} {S : St} (h : RepC w a S) (k : ∀ j, j < 9 → w'.1 (a + j) = w.1 (a + j)) : RepC w' a S := by
  obtain ⟨x4, x5, x6, f1, f2, f3, f4, f5, f6, f7, f8, h0, ⟨h1, h2, h3, h4, h5, h6, h7, h8⟩, hr⟩ := h
  exact ⟨x4, x5, x6, f1, f2, f3, f4, f5, f6, f7, f8, (k 0 (by omega)).trans h0, ⟨(k 1 (by omega)).trans h1, (k 2 (by omega)).trans h2, (k 3 (by omega)).trans h3, (k 4 (by omega)).trans h4, (k 5 (by omega)).trans h5, (k 6 (by omega)).trans h6, (k 7 (by omega)).trans h7, (k 8 (by omega)).trans h8⟩, hr⟩
theorem RepC.fr {w w' : Wd} {a lo hi : Nat} {S : St} (h : RepC w a S) (k : Fr w w' lo hi) (g : a + 9 ≤ lo ∨ hi ≤ a) : RepC w' a S := h.kept fun j hj => k.1 _ (by omega)
theorem RepC.wf {w : Wd} {a : Nat} {S : St} (h : RepC w a S) : WF S := by
  obtain ⟨x4, x5, x6, f1, f2, f3, f4, f5, f6, f7, f8, h0, h1, h2, h3, h4, h5, h6⟩ := h
  exact h6
end JSTATE

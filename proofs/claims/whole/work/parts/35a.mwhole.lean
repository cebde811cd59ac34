/-! THE MODEL WHOLE -/
section JMWHOLE
def RMc (w : Wd) (m : Nat) (f2 f3 f4 f5 f6 f7 f8 : Nat → Int32) : Prop := w.1 (m + 2) = .inl (0, 116, .inl f2) ∧ w.1 (m + 3) = .inl (0, 116, .inl f3) ∧ w.1 (m + 4) = .inl (0, 928, .inl f4) ∧ w.1 (m + 5) = .inl (0, 116, .inl f5) ∧ w.1 (m + 6) = .inl (0, 60, .inl f6) ∧ w.1 (m + 7) = .inl (0, 180, .inl f7) ∧ w.1 (m + 8) = .inl (0, 40, .inl f8)
def RMx (x : Nat → Int32) (G : Gme) : Prop := x 6 = nI (gC G) ∧ x 7 = b2i (gH G) ∧ x 13 = nI (gN G) ∧ x 14 = nI (gO G).length ∧ x 15 = oI (gE G) ∧ x 16 = oI (gF G)
def RMd (f3 f4 f6 f8 : Nat → Int32) (G : Gme) : Prop := FitM f3 (gV G) ∧ (∀ j, j < gC G → FitM (fun k => f4 (116 * j + k)) (gP G j)) ∧ (∀ j, j < gN G → f6 j = nI (gT G j) ∧ gT G j < 65536) ∧ (∀ j, j < (gO G).length → f8 j = nI ((gO G).getD j 0)) ∧ (gC G ≤ 8 ∧ gN G ≤ 60 ∧ (gO G).length ≤ 14 ∧ ∀ j, j < (gO G).length → (gO G).getD j 0 < 256) ∧ (∀ k, gE G = some k → k < 1000) ∧ (∀ k, gF G = some k → k < 1000)
/-- the model at m holds the system G, and says th -/
def RepM (w : Wd) (m : Nat) (G : Gme) (th : Nat) : Prop := ∃ x f2 f3 f4 f5 f6 f7 f8 : Nat → Int32, MA w m x (gS G) ∧ RMc w m f2 f3 f4 f5 f6 f7 f8 ∧ x 0 = nI th ∧ RMx x G ∧ RMd f3 f4 f6 f8 G
/-- .. in the middle of a change: its railway is S already, the one before lies in the frame -/
def RepI (w : Wd) (m : Nat) (x : Nat → Int32) (G : Gme) (S : St) : Prop := ∃ f2 f3 f4 f5 f6 f7 f8 : Nat → Int32, MA w m x S ∧ RMc w m f2 f3 f4 f5 f6 f7 f8 ∧ FitM f2 (gS G) ∧ x 0 = nI 0 ∧ RMx x G ∧ RMd f3 f4 f6 f8 G
theorem FA.fr {w w' : Wd} {m : Nat} (h : FA w w' m) : Fr w w' m (m + 11) := ⟨fun b hb => h.1 b (by omega), h.2⟩
theorem RMc.fa {w w' : Wd} {m : Nat} {f2 f3 f4 f5 f6 f7 f8 : Nat → Int32} (h : RMc w m f2 f3 f4 f5 f6 f7 f8) (f : FA w w' m) : RMc w' m f2 f3 f4 f5 f6 f7 f8 := by
  obtain ⟨a2, a3, a4, a5, a6, a7, a8⟩ := h
  exact ⟨(f.1 _ (by omega)).trans a2, (f.1 _ (by omega)).trans a3, (f.1 _ (by omega)).trans a4, (f.1 _ (by omega)).trans a5, (f.1 _ (by omega)).trans a6, (f.1 _ (by omega)).trans a7, (f.1 _ (by omega)).trans a8⟩
theorem RMc.fr {w w' : Wd} {m : Nat} {f2 f3 f4 f5 f6 f7 f8 : Nat → Int32} (h : RMc w m f2 f3 f4 f5 f6 f7 f8) {lo hi : Nat} (f : Fr w w' lo hi) (g : m + 9 ≤ lo ∨ hi ≤ m + 2) : RMc w' m f2 f3 f4 f5 f6 f7 f8 := by
  obtain ⟨a2, a3, a4, a5, a6, a7, a8⟩ := h
  exact ⟨(f.1 _ (by omega)).trans a2, (f.1 _ (by omega)).trans a3, (f.1 _ (by omega)).trans a4, (f.1 _ (by omega)).trans a5, (f.1 _ (by omega)).trans a6, (f.1 _ (by omega)).trans a7, (f.1 _ (by omega)).trans a8⟩
theorem RMx.of {x x' : Nat → Int32} {G : Gme} (h : RMx x G) (k : ∀ j, j ≠ 0 → j ≠ 17 → j ≠ 18 → j ≠ 19 → j ≠ 20 → j ≠ 21 → x' j = x j) : RMx x' G := by
  obtain ⟨a, b, c, d, e, f⟩ := h
  exact ⟨(k _ (by decide) (by decide) (by decide) (by decide) (by decide) (by decide)).trans a, (k _ (by decide) (by decide) (by decide) (by decide) (by decide) (by decide)).trans b, (k _ (by decide) (by decide) (by decide) (by decide) (by decide) (by decide)).trans c, (k _ (by decide) (by decide) (by decide) (by decide) (by decide) (by decide)).trans d, (k _ (by decide) (by decide) (by decide) (by decide) (by decide) (by decide)).trans e, (k _ (by decide) (by decide) (by decide) (by decide) (by decide) (by decide)).trans f⟩
theorem RepI.fa {w w' : Wd} {m : Nat} {x x' : Nat → Int32} {G : Gme} {S S' : St} (h : RepI w m x G S) (f : FA w w' m) (hA : MA w' m x' S') (hx : ∀ k, k ≠ 17 → x' k = x k) : RepI w' m x' G S' := by
  obtain ⟨f2, f3, f4, f5, f6, f7, f8, h1, h2, h3, h4, h5, h6⟩ := h
  exact ⟨f2, f3, f4, f5, f6, f7, f8, hA, h2.fa f, h3, (hx 0 (by decide)).trans h4, h5.of (fun j _ h _ _ _ _ => hx j h), h6⟩
theorem RepM.fr {w w' : Wd} {m : Nat} {G : Gme} {th : Nat} (h : RepM w m G th) {lo hi : Nat} (k : Fr w w' lo hi) (g : m + 11 ≤ lo ∨ hi ≤ m) : RepM w' m G th := by
  obtain ⟨x, f2, f3, f4, f5, f6, f7, f8, h1, h2, h3⟩ := h
  exact ⟨x, f2, f3, f4, f5, f6, f7, f8, h1.fr k g, h2.fr k (by omega), h3⟩
/-- an answer of the model: what it says is the number that the error has among the method's exceptions -/
def GM (w : Wd) (m : Nat) (l : List Nat) (R : GRs) : Po := RP (fun v w' => (∃ y, v = some (.int y) ∧ (R.1 = 0 → y = R.2.1)) ∧ Fr w w' m (m + 11) ∧ RepM w' m R.2.2 (cod l R.1))
theorem cod_0 {l : List Nat} {c : Nat} : cod l c = 0 ↔ c = 0 := by
  unfold cod
  by_cases h : c = 0
  · rw [if_pos h]; exact ⟨fun _ => h, fun _ => rfl⟩
  · rw [if_neg h]; exact ⟨fun e => absurd e (Nat.succ_ne_zero _), fun e => absurd e h⟩
theorem cod_lt {l : List Nat} (c : Nat) (h : l.length ≤ 4) : cod l c < 2 ^ 31 := by
  unfold cod
  split
  · omega
  · have := List.idxOf_le_length (a := c) (l := l)
    omega
theorem c_X9_thrown {w : Wd} {m : Nat} {G : Gme} {th : Nat} (hM : RepM w m G th) : MC 2 mX9_thrown 0 0 [.ref m] w (RI (.int (nI th)) w) := by
  obtain ⟨x, f2, f3, f4, f5, f6, f7, f8, hA, ⟨m2, m3, m4, m5, m6, m7, m8⟩, hx0, hRx, hRd⟩ := id hM
  obtain ⟨x6, x7, x13, x14, x15, x16⟩ := id hRx
  obtain ⟨hV, hP, hT, hO, ⟨hb8, hb60, hb14⟩, hE, hF⟩ := id hRd
  obtain ⟨f, g, h, mO, mS, mF, mK, hfit⟩ := id hA
  have hwf := hfit.2.2.2.2
  have hnb := hwf.nb
  have hnt := hwf.nt
  refine MC_j pnX9 rfl rfl rfl (Or.inr (fun E w h => by cases h.1)) ?_
  show J 2 mX9_thrown 0 [some (.ref m)] [] w 0 0 _
  refine J_aload_n dX9_thrown_0 rfl rfl ?_
  refine J_getfield dX9_thrown_1 fX9_47 mO rfl ?_
  exact J_ireturn dX9_thrown_4 rfl rfl ⟨by rw [hx0], rfl⟩

theorem c_X9_fails {w : Wd} {m : Nat} {x : Nat → Int32} (mO : w.1 m = mCell m x) (y : Int32) : MC 2 mX9_fails 0 0 [.ref m, .int y] w (RP (fun v w' => v = some (.int (nI 0)) ∧ Up w w' m (mCell m (va_up x 0 y)))) := by
  refine MC_j pnX9 rfl rfl rfl (Or.inr (fun E w h => RP_no E w h)) ?_
  show J 2 mX9_fails 0 [some (.ref m), some (.int y)] [] w 0 0 _
  refine J_aload_n dX9_fails_0 rfl rfl ?_
  refine J_iload_n dX9_fails_1 rfl rfl ?_
  refine K_putI dX9_fails_2 fX9_47 (Or.inl rfl) mO (Nat.le_of_ble_eq_true rfl) (fun w1 u1 => ?_)
  have mO := u1.1
  have mO : w1.1 m = .inr (9, [.int (y), .ref (m + 1), .ref (m + 2), .ref (m + 3), .ref (m + 4), .ref (m + 5), .int (x 6), .int (x 7), .ref (m + 6), .ref (m + 7), .ref (m + 8), .ref (m + 9), .ref (m + 10), .int (x 13), .int (x 14), .int (x 15), .int (x 16), .int (x 17), .int (x 18), .int (x 19), .int (x 20), .int (x 21)]) := mO
  refine J_iconst (v := nI 0) dX9_fails_5 (by decide) ?_
  exact J_ireturn dX9_fails_6 rfl rfl (RP_i ⟨rfl, u1⟩)

end JMWHOLE

/-! THE LAW: its helpers -/
section JHELP
theorem gMut_1 {G : Gme} {R : Rs} : (gMut G R).1 = R.1 := by
  unfold gMut
  split
  · rename_i h; exact h.symm
  · rfl
theorem RepX.kp {w w' : Wd} {x : Nat} {G : Gme} (hX : RepX w x G) (f : ∀ b : Nat, x ≤ b → b < x + 126 → w'.1 b = w.1 b) : RepX w' x G := by
  obtain ⟨h0, h1', h2', ⟨S9, h3⟩, ⟨K9, h4⟩, h5, h6, ⟨p, e, m, x1, x2, h7⟩, h8, h9⟩ := hX
  exact ⟨(f _ (by omega) (by omega)).trans h0, h1'.kept (fun j hj => f _ (by omega) (by omega)), h2'.kept (fun j hj => f _ (by omega) (by omega)), ⟨S9, h3.kept (fun j hj => f _ (by omega) (by omega))⟩, ⟨K9, h4.kp (fun j hj => f _ (by omega) (by omega))⟩, h5.kp (fun j hj => f _ (by omega) (by omega)), h6.kp (fun j hj => f _ (by omega) (by omega)), ⟨p, e, m, x1, x2, h7.kp (fun j hj => f _ (by omega) (by omega))⟩, h8.kp (fun j hj => f _ (by omega) (by omega)), h9⟩
/-- what the law's helpers answer for an option -/
def oV : Option Nat → Int32
  | none => -75
  | some k => nI k
/-- their numbers for what is thrown -/
def cdn : Nat → Int32
  | 1 => -77
  | 2 => -78
  | 3 => -79
  | 4 => -76
  | _ => -75
def lvR (R : GRs) : Int32 := if R.1 = 0 then R.2.1 else cdn R.1
/-- what lives beside the railway is kept -/
def KP (w w' : Wd) (x : Nat) : Prop := ∀ b : Nat, (b < x ∨ x + 126 ≤ b) → w.1 b ≠ dead → w'.1 b = w.1 b
theorem KP.rf (w : Wd) (x : Nat) : KP w w x := fun _ _ _ => rfl
theorem KP.tr {w w1 w2 : Wd} {x : Nat} (h1 : KP w w1 x) (h2 : KP w1 w2 x) : KP w w2 x := fun b hb hd => (h2 b hb (by rw [h1 b hb hd]; exact hd)).trans (h1 b hb hd)
theorem KP.at {w w' : Wd} {x a : Nat} {c : Ce} (k : KP w w' x) (h : w.1 a = c) (ha : a < x ∨ x + 126 ≤ a) (hc : c ≠ dead) : w'.1 a = c := (k a ha (by rw [h]; exact hc)).trans h
theorem KP.fr {w w' : Wd} {x : Nat} (f : Fr w w' x (x + 126)) : KP w w' x := fun b hb _ => f.1 b hb
/-- a cell that was dead is new, or changed -/
theorem KP.up {w w1 w2 : Wd} {x a : Nat} (h : KP w w1 x) (hd : w.1 a = dead) (f : ∀ b : Nat, b ≠ a → w2.1 b = w1.1 b) : KP w w2 x := fun b hb hb2 => (f b (fun e => hb2 (by rw [e]; exact hd))).trans (h b hb hb2)
theorem RepX.lv {w : Wd} {x : Nat} {G : Gme} (hX : RepX w x G) : w.1 x ≠ dead ∧ w.1 (x + 125) ≠ dead := by
  obtain ⟨h0, -, -, -, -, -, -, -, h8, -⟩ := hX
  refine ⟨fun e => ?_, fun e => ?_⟩
  · rw [h0] at e
    unfold dead at e
    injection e with e
    injection e with e1 e2
    exact absurd e1 (by decide)
  · unfold RepO at h8
    obtain ⟨f, -, h, -⟩ := h8
    rw [show x + 124 + 1 = x + 125 from rfl] at h
    rw [h] at e
    cases e
def HV (w : Wd) (x : Nat) (G : Gme) (v : Int32) : Po := RP (fun r w' => r = some (.int v) ∧ KP w w' x ∧ RepX w' x G)
theorem HV_ok {w w1 : Wd} {x : Nat} {R : GRs} {v : Int32} (h : GXo w x R (.inl (some (.int R.2.1))) w1) (e : R.1 = 0) (hv : R.2.1 = v) : HV w x R.2.2 (lvR R) (.inl (some (.int v))) w1 := by
  obtain ⟨f, hX, -⟩ := h
  exact RP_i ⟨by unfold lvR; rw [if_pos e, hv], KP.fr f, hX⟩
theorem HV_no {w w1 : Wd} {x : Nat} {R : GRs} {E : String} {c : Nat} {v : Int32} (h : GXo w x R (.inr E) w1) (hc : R.1 = c) (h0 : c ≠ 0) (hv : cdn c = v) : HV w x R.2.2 (lvR R) (.inl (some (.int v))) w1 := by
  obtain ⟨f, hX, -⟩ := h
  exact RP_i ⟨by unfold lvR; rw [if_neg (by rw [hc]; exact h0), hc, hv], KP.fr f, hX⟩
theorem GXo_E {w w1 : Wd} {x : Nat} {R : GRs} {E : String} (h : GXo w x R (.inr E) w1) : R.1 ≠ 0 ∧ E = exN R.1 := by
  obtain ⟨-, -, ⟨-, z⟩ | ⟨e, z⟩⟩ := h
  · cases z
  · cases z; exact ⟨e, rfl⟩
theorem GXo_V {w w1 : Wd} {x : Nat} {R : GRs} {v : Option Value} (h : GXo w x R (.inl v) w1) : R.1 = 0 ∧ v = some (.int R.2.1) := by
  obtain ⟨-, -, ⟨e, z⟩ | ⟨-, z⟩⟩ := h
  · cases z; exact ⟨e, rfl⟩
  · cases z
theorem lw_b1 {y : Int32} (h : y = 0 ∨ y = 1) (h0 : ¬ y = 0) : y = nI 1 := by
  rcases h with rfl | rfl
  · exact absurd rfl h0
  · decide
theorem lc_addBlock (G : Gme) (y : Int32) : (gMut G (oAdd (gS G) y false)).1 = 0 ∨ (gMut G (oAdd (gS G) y false)).1 = 2 ∨ (gMut G (oAdd (gS G) y false)).1 = 3 := by
  simp only [gMut_1]
  unfold oAdd
  repeat' first | exact Or.inl rfl | exact Or.inr (Or.inl rfl) | exact Or.inr (Or.inr (rfl)) | split | dsimp only
theorem lc_addCushion (G : Gme) (y : Int32) : (gMut G (oAdd (gS G) y true)).1 = 0 ∨ (gMut G (oAdd (gS G) y true)).1 = 2 ∨ (gMut G (oAdd (gS G) y true)).1 = 3 := by
  simp only [gMut_1]
  unfold oAdd
  repeat' first | exact Or.inl rfl | exact Or.inr (Or.inl rfl) | exact Or.inr (Or.inr (rfl)) | split | dsimp only
theorem lc_link (G : Gme) (y z : Int32) : (gMut G (oJoin (gS G) y z)).1 = 0 ∨ (gMut G (oJoin (gS G) y z)).1 = 1 ∨ (gMut G (oJoin (gS G) y z)).1 = 2 ∨ (gMut G (oJoin (gS G) y z)).1 = 3 := by
  simp only [gMut_1]
  unfold oJoin
  repeat' first | exact Or.inl rfl | exact Or.inr (Or.inl rfl) | exact Or.inr (Or.inr (Or.inl rfl)) | exact Or.inr (Or.inr (Or.inr (rfl))) | split | dsimp only
theorem lc_unlink (G : Gme) (y z : Int32) : (gMut G (oPart (gS G) y z)).1 = 0 ∨ (gMut G (oPart (gS G) y z)).1 = 1 ∨ (gMut G (oPart (gS G) y z)).1 = 5 := by
  simp only [gMut_1]
  unfold oPart
  repeat' first | exact Or.inl rfl | exact Or.inr (Or.inl rfl) | exact Or.inr (Or.inr (rfl)) | split | dsimp only
theorem lc_putCat (G : Gme) (y : Int32) : (gMut G (oCat (gS G) y)).1 = 0 ∨ (gMut G (oCat (gS G) y)).1 = 1 ∨ (gMut G (oCat (gS G) y)).1 = 3 ∨ (gMut G (oCat (gS G) y)).1 = 4 := by
  simp only [gMut_1]
  unfold oCat
  repeat' first | exact Or.inl rfl | exact Or.inr (Or.inl rfl) | exact Or.inr (Or.inr (Or.inl rfl)) | exact Or.inr (Or.inr (Or.inr (rfl))) | split | dsimp only
theorem lc_removeCat (G : Gme) (y : Int32) : (gMut G (oShoo (gS G) y)).1 = 0 ∨ (gMut G (oShoo (gS G) y)).1 = 1 ∨ (gMut G (oShoo (gS G) y)).1 = 5 := by
  simp only [gMut_1]
  unfold oShoo
  repeat' first | exact Or.inl rfl | exact Or.inr (Or.inl rfl) | exact Or.inr (Or.inr (rfl)) | split | dsimp only
theorem lc_addTrain (G : Gme) (y z : Int32) : (gMut G (oTrain (gS G) y z)).1 = 0 ∨ (gMut G (oTrain (gS G) y z)).1 = 1 ∨ (gMut G (oTrain (gS G) y z)).1 = 2 ∨ (gMut G (oTrain (gS G) y z)).1 = 3 ∨ (gMut G (oTrain (gS G) y z)).1 = 4 := by
  simp only [gMut_1]
  unfold oTrain
  repeat' first | exact Or.inl rfl | exact Or.inr (Or.inl rfl) | exact Or.inr (Or.inr (Or.inl rfl)) | exact Or.inr (Or.inr (Or.inr (Or.inl rfl))) | exact Or.inr (Or.inr (Or.inr (Or.inr (rfl)))) | split | dsimp only
theorem lc_setGoal (G : Gme) (y z : Int32) : (gMut G (oAim (gS G) y z)).1 = 0 ∨ (gMut G (oAim (gS G) y z)).1 = 1 ∨ (gMut G (oAim (gS G) y z)).1 = 2 ∨ (gMut G (oAim (gS G) y z)).1 = 4 ∨ (gMut G (oAim (gS G) y z)).1 = 5 := by
  simp only [gMut_1]
  unfold oAim
  repeat' first | exact Or.inl rfl | exact Or.inr (Or.inl rfl) | exact Or.inr (Or.inr (Or.inl rfl)) | exact Or.inr (Or.inr (Or.inr (Or.inl rfl))) | exact Or.inr (Or.inr (Or.inr (Or.inr (rfl)))) | split | dsimp only
theorem lc_clearGoal (G : Gme) (y : Int32) : (gMut G (oDrop (gS G) y)).1 = 0 ∨ (gMut G (oDrop (gS G) y)).1 = 1 ∨ (gMut G (oDrop (gS G) y)).1 = 5 := by
  simp only [gMut_1]
  unfold oDrop
  repeat' first | exact Or.inl rfl | exact Or.inr (Or.inl rfl) | exact Or.inr (Or.inr (rfl)) | split | dsimp only
theorem lc_reserve (G : Gme) (y z : Int32) : (gMut G (oHold (gS G) y z)).1 = 0 ∨ (gMut G (oHold (gS G) y z)).1 = 1 ∨ (gMut G (oHold (gS G) y z)).1 = 2 ∨ (gMut G (oHold (gS G) y z)).1 = 3 ∨ (gMut G (oHold (gS G) y z)).1 = 4 := by
  simp only [gMut_1]
  unfold oHold
  repeat' first | exact Or.inl rfl | exact Or.inr (Or.inl rfl) | exact Or.inr (Or.inr (Or.inl rfl)) | exact Or.inr (Or.inr (Or.inr (Or.inl rfl))) | exact Or.inr (Or.inr (Or.inr (Or.inr (rfl)))) | split | dsimp only
theorem lc_cancelReservation (G : Gme) (y : Int32) : (gMut G (oFree (gS G) y)).1 = 0 ∨ (gMut G (oFree (gS G) y)).1 = 1 ∨ (gMut G (oFree (gS G) y)).1 = 5 := by
  simp only [gMut_1]
  unfold oFree
  repeat' first | exact Or.inl rfl | exact Or.inr (Or.inl rfl) | exact Or.inr (Or.inr (rfl)) | split | dsimp only
theorem lc_rescue (G : Gme) (y : Int32) : (gMut G (oResc (gS G) y)).1 = 0 ∨ (gMut G (oResc (gS G) y)).1 = 1 ∨ (gMut G (oResc (gS G) y)).1 = 3 := by
  simp only [gMut_1]
  unfold oResc
  repeat' first | exact Or.inl rfl | exact Or.inr (Or.inl rfl) | exact Or.inr (Or.inr (rfl)) | split | dsimp only
theorem lc_passTicks (G : Gme) (y : Int32) : (gMut G (oTick (gS G) y)).1 = 0 ∨ (gMut G (oTick (gS G) y)).1 = 2 := by
  simp only [gMut_1]
  unfold oTick
  repeat' first | exact Or.inl rfl | exact Or.inr (rfl) | split | dsimp only
theorem lc_length (G : Gme) (y : Int32) : (gQ G (onI (sNb (gS G)) y (fun i => (0, nI (sLen (gS G) i))))).1 = 0 ∨ (gQ G (onI (sNb (gS G)) y (fun i => (0, nI (sLen (gS G) i))))).1 = 1 := by
  show ((onI (sNb (gS G)) y (fun i => (0, nI (sLen (gS G) i))))).1 = 0 ∨ ((onI (sNb (gS G)) y (fun i => (0, nI (sLen (gS G) i))))).1 = 1
  unfold onI
  repeat' first | exact Or.inl rfl | exact Or.inr (rfl) | split | dsimp only
theorem lc_signal (G : Gme) (y : Int32) : (gQ G (onI (sNb (gS G)) y (fun i => (0, nI (sgn (gS G) i))))).1 = 0 ∨ (gQ G (onI (sNb (gS G)) y (fun i => (0, nI (sgn (gS G) i))))).1 = 1 := by
  show ((onI (sNb (gS G)) y (fun i => (0, nI (sgn (gS G) i))))).1 = 0 ∨ ((onI (sNb (gS G)) y (fun i => (0, nI (sgn (gS G) i))))).1 = 1
  unfold onI
  repeat' first | exact Or.inl rfl | exact Or.inr (rfl) | split | dsimp only
theorem lc_blockOf (G : Gme) (y : Int32) : (gQ G (onI (sNt (gS G)) y (fun i => (0, nI (sPl (gS G) i))))).1 = 0 ∨ (gQ G (onI (sNt (gS G)) y (fun i => (0, nI (sPl (gS G) i))))).1 = 1 := by
  show ((onI (sNt (gS G)) y (fun i => (0, nI (sPl (gS G) i))))).1 = 0 ∨ ((onI (sNt (gS G)) y (fun i => (0, nI (sPl (gS G) i))))).1 = 1
  unfold onI
  repeat' first | exact Or.inl rfl | exact Or.inr (rfl) | split | dsimp only
theorem lc_priority (G : Gme) (y : Int32) : (gQ G (onI (sNt (gS G)) y (fun i => (0, nI (sPr (gS G) i))))).1 = 0 ∨ (gQ G (onI (sNt (gS G)) y (fun i => (0, nI (sPr (gS G) i))))).1 = 1 := by
  show ((onI (sNt (gS G)) y (fun i => (0, nI (sPr (gS G) i))))).1 = 0 ∨ ((onI (sNt (gS G)) y (fun i => (0, nI (sPr (gS G) i))))).1 = 1
  unfold onI
  repeat' first | exact Or.inl rfl | exact Or.inr (rfl) | split | dsimp only
theorem lc_remainingTicks (G : Gme) (y : Int32) : (gQ G (onI (sNt (gS G)) y (fun i => (0, nI (sRe (gS G) i))))).1 = 0 ∨ (gQ G (onI (sNt (gS G)) y (fun i => (0, nI (sRe (gS G) i))))).1 = 1 := by
  show ((onI (sNt (gS G)) y (fun i => (0, nI (sRe (gS G) i))))).1 = 0 ∨ ((onI (sNt (gS G)) y (fun i => (0, nI (sRe (gS G) i))))).1 = 1
  unfold onI
  repeat' first | exact Or.inl rfl | exact Or.inr (rfl) | split | dsimp only
theorem lc_waits (G : Gme) (y : Int32) : (gQ G (onI (sNt (gS G)) y (fun i => (0, sWa (gS G) i)))).1 = 0 ∨ (gQ G (onI (sNt (gS G)) y (fun i => (0, sWa (gS G) i)))).1 = 1 := by
  show ((onI (sNt (gS G)) y (fun i => (0, sWa (gS G) i)))).1 = 0 ∨ ((onI (sNt (gS G)) y (fun i => (0, sWa (gS G) i)))).1 = 1
  unfold onI
  repeat' first | exact Or.inl rfl | exact Or.inr (rfl) | split | dsimp only
theorem lc_isCushion (G : Gme) (y : Int32) : (gQ G (onI (sNb (gS G)) y (fun i => (0, b2i (sCu (gS G) i))))).1 = 0 ∨ (gQ G (onI (sNb (gS G)) y (fun i => (0, b2i (sCu (gS G) i))))).1 = 1 := by
  show ((onI (sNb (gS G)) y (fun i => (0, b2i (sCu (gS G) i))))).1 = 0 ∨ ((onI (sNb (gS G)) y (fun i => (0, b2i (sCu (gS G) i))))).1 = 1
  unfold onI
  repeat' first | exact Or.inl rfl | exact Or.inr (rfl) | split | dsimp only
theorem lb_isCushion (G : Gme) (y : Int32) : (gQ G (onI (sNb (gS G)) y (fun i => (0, b2i (sCu (gS G) i))))).2.1 = 0 ∨ (gQ G (onI (sNb (gS G)) y (fun i => (0, b2i (sCu (gS G) i))))).2.1 = 1 := by
  show ((onI (sNb (gS G)) y (fun i => (0, b2i (sCu (gS G) i))))).2 = 0 ∨ ((onI (sNb (gS G)) y (fun i => (0, b2i (sCu (gS G) i))))).2 = 1
  unfold onI
  repeat' first | exact Or.inl rfl | exact b2i_01 _ | split | dsimp only
theorem lc_hasCat (G : Gme) (y : Int32) : (gQ G (onI (sNb (gS G)) y (fun i => (0, b2i (sCa (gS G) i))))).1 = 0 ∨ (gQ G (onI (sNb (gS G)) y (fun i => (0, b2i (sCa (gS G) i))))).1 = 1 := by
  show ((onI (sNb (gS G)) y (fun i => (0, b2i (sCa (gS G) i))))).1 = 0 ∨ ((onI (sNb (gS G)) y (fun i => (0, b2i (sCa (gS G) i))))).1 = 1
  unfold onI
  repeat' first | exact Or.inl rfl | exact Or.inr (rfl) | split | dsimp only
theorem lb_hasCat (G : Gme) (y : Int32) : (gQ G (onI (sNb (gS G)) y (fun i => (0, b2i (sCa (gS G) i))))).2.1 = 0 ∨ (gQ G (onI (sNb (gS G)) y (fun i => (0, b2i (sCa (gS G) i))))).2.1 = 1 := by
  show ((onI (sNb (gS G)) y (fun i => (0, b2i (sCa (gS G) i))))).2 = 0 ∨ ((onI (sNb (gS G)) y (fun i => (0, b2i (sCa (gS G) i))))).2 = 1
  unfold onI
  repeat' first | exact Or.inl rfl | exact b2i_01 _ | split | dsimp only
theorem lc_isDerailed (G : Gme) (y : Int32) : (gQ G (onI (sNt (gS G)) y (fun i => (0, b2i (sOf (gS G) i))))).1 = 0 ∨ (gQ G (onI (sNt (gS G)) y (fun i => (0, b2i (sOf (gS G) i))))).1 = 1 := by
  show ((onI (sNt (gS G)) y (fun i => (0, b2i (sOf (gS G) i))))).1 = 0 ∨ ((onI (sNt (gS G)) y (fun i => (0, b2i (sOf (gS G) i))))).1 = 1
  unfold onI
  repeat' first | exact Or.inl rfl | exact Or.inr (rfl) | split | dsimp only
theorem lb_isDerailed (G : Gme) (y : Int32) : (gQ G (onI (sNt (gS G)) y (fun i => (0, b2i (sOf (gS G) i))))).2.1 = 0 ∨ (gQ G (onI (sNt (gS G)) y (fun i => (0, b2i (sOf (gS G) i))))).2.1 = 1 := by
  show ((onI (sNt (gS G)) y (fun i => (0, b2i (sOf (gS G) i))))).2 = 0 ∨ ((onI (sNt (gS G)) y (fun i => (0, b2i (sOf (gS G) i))))).2 = 1
  unfold onI
  repeat' first | exact Or.inl rfl | exact b2i_01 _ | split | dsimp only
theorem lc_trainIn (G : Gme) (y : Int32) : (gQ G (onI (sNb (gS G)) y (fun i => opA (tAt (gS G) i)))).1 = 0 ∨ (gQ G (onI (sNb (gS G)) y (fun i => opA (tAt (gS G) i)))).1 = 1 ∨ (gQ G (onI (sNb (gS G)) y (fun i => opA (tAt (gS G) i)))).1 = 5 := by
  show ((onI (sNb (gS G)) y (fun i => opA (tAt (gS G) i)))).1 = 0 ∨ ((onI (sNb (gS G)) y (fun i => opA (tAt (gS G) i)))).1 = 1 ∨ ((onI (sNb (gS G)) y (fun i => opA (tAt (gS G) i)))).1 = 5
  unfold onI opA
  repeat' first | exact Or.inl rfl | exact Or.inr (Or.inl rfl) | exact Or.inr (Or.inr (rfl)) | split | dsimp only
theorem lc_reservedBy (G : Gme) (y : Int32) : (gQ G (onI (sNb (gS G)) y (fun i => opA (hOf (gS G) i)))).1 = 0 ∨ (gQ G (onI (sNb (gS G)) y (fun i => opA (hOf (gS G) i)))).1 = 1 ∨ (gQ G (onI (sNb (gS G)) y (fun i => opA (hOf (gS G) i)))).1 = 5 := by
  show ((onI (sNb (gS G)) y (fun i => opA (hOf (gS G) i)))).1 = 0 ∨ ((onI (sNb (gS G)) y (fun i => opA (hOf (gS G) i)))).1 = 1 ∨ ((onI (sNb (gS G)) y (fun i => opA (hOf (gS G) i)))).1 = 5
  unfold onI opA
  repeat' first | exact Or.inl rfl | exact Or.inr (Or.inl rfl) | exact Or.inr (Or.inr (rfl)) | split | dsimp only
theorem lc_goal (G : Gme) (y : Int32) : (gQ G (onI (sNt (gS G)) y (fun i => opA (sGo (gS G) i)))).1 = 0 ∨ (gQ G (onI (sNt (gS G)) y (fun i => opA (sGo (gS G) i)))).1 = 1 ∨ (gQ G (onI (sNt (gS G)) y (fun i => opA (sGo (gS G) i)))).1 = 5 := by
  show ((onI (sNt (gS G)) y (fun i => opA (sGo (gS G) i)))).1 = 0 ∨ ((onI (sNt (gS G)) y (fun i => opA (sGo (gS G) i)))).1 = 1 ∨ ((onI (sNt (gS G)) y (fun i => opA (sGo (gS G) i)))).1 = 5
  unfold onI opA
  repeat' first | exact Or.inl rfl | exact Or.inr (Or.inl rfl) | exact Or.inr (Or.inr (rfl)) | split | dsimp only
theorem lc_nextBlock (G : Gme) (y : Int32) : (gQ G (onI (sNt (gS G)) y (fun i => opA (nx (gS G) i)))).1 = 0 ∨ (gQ G (onI (sNt (gS G)) y (fun i => opA (nx (gS G) i)))).1 = 1 ∨ (gQ G (onI (sNt (gS G)) y (fun i => opA (nx (gS G) i)))).1 = 5 := by
  show ((onI (sNt (gS G)) y (fun i => opA (nx (gS G) i)))).1 = 0 ∨ ((onI (sNt (gS G)) y (fun i => opA (nx (gS G) i)))).1 = 1 ∨ ((onI (sNt (gS G)) y (fun i => opA (nx (gS G) i)))).1 = 5
  unfold onI opA
  repeat' first | exact Or.inl rfl | exact Or.inr (Or.inl rfl) | exact Or.inr (Or.inr (rfl)) | split | dsimp only
theorem lc_nearestCushion (G : Gme) (y : Int32) : (gQ G (onI (sNb (gS G)) y (fun i => opA (nrC (gS G) i)))).1 = 0 ∨ (gQ G (onI (sNb (gS G)) y (fun i => opA (nrC (gS G) i)))).1 = 1 ∨ (gQ G (onI (sNb (gS G)) y (fun i => opA (nrC (gS G) i)))).1 = 5 := by
  show ((onI (sNb (gS G)) y (fun i => opA (nrC (gS G) i)))).1 = 0 ∨ ((onI (sNb (gS G)) y (fun i => opA (nrC (gS G) i)))).1 = 1 ∨ ((onI (sNb (gS G)) y (fun i => opA (nrC (gS G) i)))).1 = 5
  unfold onI opA
  repeat' first | exact Or.inl rfl | exact Or.inr (Or.inl rfl) | exact Or.inr (Or.inr (rfl)) | split | dsimp only
theorem lc_blockedBy (G : Gme) (y : Int32) : (gQ G (onI (sNt (gS G)) y (fun i => opA (bk (gS G) i)))).1 = 0 ∨ (gQ G (onI (sNt (gS G)) y (fun i => opA (bk (gS G) i)))).1 = 1 ∨ (gQ G (onI (sNt (gS G)) y (fun i => opA (bk (gS G) i)))).1 = 5 := by
  show ((onI (sNt (gS G)) y (fun i => opA (bk (gS G) i)))).1 = 0 ∨ ((onI (sNt (gS G)) y (fun i => opA (bk (gS G) i)))).1 = 1 ∨ ((onI (sNt (gS G)) y (fun i => opA (bk (gS G) i)))).1 = 5
  unfold onI opA
  repeat' first | exact Or.inl rfl | exact Or.inr (Or.inl rfl) | exact Or.inr (Or.inr (rfl)) | split | dsimp only
theorem lc_trainByPriority (G : Gme) (y : Int32) : (gQ G (opA (rkX (gS G) y))).1 = 0 ∨ (gQ G (opA (rkX (gS G) y))).1 = 5 := by
  show ((opA (rkX (gS G) y))).1 = 0 ∨ ((opA (rkX (gS G) y))).1 = 5
  unfold opA
  repeat' first | exact Or.inl rfl | exact Or.inr (rfl) | split | dsimp only
theorem lc_areLinked (G : Gme) (y z : Int32) : (gQ G (onB2 (gS G) y z (fun a b => (0, b2i (sLk (gS G) a b))))).1 = 0 ∨ (gQ G (onB2 (gS G) y z (fun a b => (0, b2i (sLk (gS G) a b))))).1 = 1 := by
  show ((onB2 (gS G) y z (fun a b => (0, b2i (sLk (gS G) a b))))).1 = 0 ∨ ((onB2 (gS G) y z (fun a b => (0, b2i (sLk (gS G) a b))))).1 = 1
  unfold onB2
  repeat' first | exact Or.inl rfl | exact Or.inr (rfl) | split | dsimp only
theorem lb_areLinked (G : Gme) (y z : Int32) : (gQ G (onB2 (gS G) y z (fun a b => (0, b2i (sLk (gS G) a b))))).2.1 = 0 ∨ (gQ G (onB2 (gS G) y z (fun a b => (0, b2i (sLk (gS G) a b))))).2.1 = 1 := by
  show ((onB2 (gS G) y z (fun a b => (0, b2i (sLk (gS G) a b))))).2 = 0 ∨ ((onB2 (gS G) y z (fun a b => (0, b2i (sLk (gS G) a b))))).2 = 1
  unfold onB2
  repeat' first | exact Or.inl rfl | exact b2i_01 _ | split | dsimp only
theorem lc_distance (G : Gme) (y z : Int32) : (gQ G (onB2 (gS G) y z (fun a b => opA (dS (gS G) a b)))).1 = 0 ∨ (gQ G (onB2 (gS G) y z (fun a b => opA (dS (gS G) a b)))).1 = 1 ∨ (gQ G (onB2 (gS G) y z (fun a b => opA (dS (gS G) a b)))).1 = 5 := by
  show ((onB2 (gS G) y z (fun a b => opA (dS (gS G) a b)))).1 = 0 ∨ ((onB2 (gS G) y z (fun a b => opA (dS (gS G) a b)))).1 = 1 ∨ ((onB2 (gS G) y z (fun a b => opA (dS (gS G) a b)))).1 = 5
  unfold onB2 opA
  repeat' first | exact Or.inl rfl | exact Or.inr (Or.inl rfl) | exact Or.inr (Or.inr (rfl)) | split | dsimp only
theorem lc_distanceByRounds (G : Gme) (y z : Int32) : (gQ G (onB2 (gS G) y z (fun a b => opA (dS (gS G) a b)))).1 = 0 ∨ (gQ G (onB2 (gS G) y z (fun a b => opA (dS (gS G) a b)))).1 = 1 ∨ (gQ G (onB2 (gS G) y z (fun a b => opA (dS (gS G) a b)))).1 = 5 := by
  show ((onB2 (gS G) y z (fun a b => opA (dS (gS G) a b)))).1 = 0 ∨ ((onB2 (gS G) y z (fun a b => opA (dS (gS G) a b)))).1 = 1 ∨ ((onB2 (gS G) y z (fun a b => opA (dS (gS G) a b)))).1 = 5
  unfold onB2 opA
  repeat' first | exact Or.inl rfl | exact Or.inr (Or.inl rfl) | exact Or.inr (Or.inr (rfl)) | split | dsimp only
theorem lc_ticksUntilArrival (G : Gme) (y : Int32) : (gQ G (qArr (gS G) y)).1 = 0 ∨ (gQ G (qArr (gS G) y)).1 = 1 ∨ (gQ G (qArr (gS G) y)).1 = 5 := by
  show ((qArr (gS G) y)).1 = 0 ∨ ((qArr (gS G) y)).1 = 1 ∨ ((qArr (gS G) y)).1 = 5
  unfold qArr onI opA
  repeat' first | exact Or.inl rfl | exact Or.inr (Or.inl rfl) | exact Or.inr (Or.inr (rfl)) | split | dsimp only
theorem lc_feed (G : Gme) {c : Nat} : (gFeed G c).1 = 0 ∨ (gFeed G c).1 = 3 := by
  unfold gFeed
  repeat' first | exact Or.inl rfl | exact Or.inr (rfl) | split | dsimp only
theorem lc_execute (G : Gme)  : (gExec G).1 = 0 ∨ (gExec G).1 = 2 ∨ (gExec G).1 = 4 := by
  unfold gExec
  repeat' first | exact Or.inl rfl | exact Or.inr (Or.inl rfl) | exact Or.inr (Or.inr (rfl)) | split | dsimp only
theorem lc_undo (G : Gme)  : (gUndo G).1 = 0 ∨ (gUndo G).1 = 3 := by
  unfold gUndo
  repeat' first | exact Or.inl rfl | exact Or.inr (rfl) | split | dsimp only
theorem lc_restore (G : Gme)  : (gRest G).1 = 0 ∨ (gRest G).1 = 3 := by
  unfold gRest
  repeat' first | exact Or.inl rfl | exact Or.inr (rfl) | split | dsimp only
end JHELP

/-! THE WHOLE SYSTEM AS A VALUE: what each call answers and leaves -/
section JGAME
abbrev Gme : Type := (St × St × Bool) × ((Nat → St) × Nat) × List Nat × ((Nat → Nat) × Nat) × (Option Nat × Option Nat)
def gS (G : Gme) : St := G.1.1
def gV (G : Gme) : St := G.1.2.1
def gH (G : Gme) : Bool := G.1.2.2
def gP (G : Gme) : Nat → St := G.2.1.1
def gC (G : Gme) : Nat := G.2.1.2
def gO (G : Gme) : List Nat := G.2.2.1
def gT (G : Gme) : Nat → Nat := G.2.2.2.1.1
def gN (G : Gme) : Nat := G.2.2.2.1.2
def gE (G : Gme) : Option Nat := G.2.2.2.2.1
def gF (G : Gme) : Option Nat := G.2.2.2.2.2
abbrev GRs : Type := Nat × Int32 × Gme
def gPush (G : Gme) (S : St) : Gme := ((S, gV G, gH G), (pushP (gP G) (gC G) (gS G), pushN (gC G)), G.2.2)
def gMut (G : Gme) (R : Rs) : GRs := if R.1 = 0 then (0, R.2.1, gPush G R.2.2) else (R.1, 0, G)
def gQ (G : Gme) (q : Nat × Int32) : GRs := (q.1, q.2, G)
def onI (n : Nat) (x : Int32) (f : Nat → Nat × Int32) : Nat × Int32 := match vi n x with
  | none => (1, 0)
  | some b => f b
def opA (o : Option Nat) : Nat × Int32 := match o with
  | none => (5, 0)
  | some k => (0, nI k)
def ok0 (v : Int32) : Nat × Int32 := (0, v)
def gOut (G : Gme) (l : List Nat) : Gme := (G.1, G.2.1, l, G.2.2.2)
def trL (S : St) (t : Nat) : List Nat := markL 84 t ++ markL 64 (sPl S t) ++ (if 0 < sRe S t then markL 43 (sRe S t) else []) ++ (match sGo S t with
  | none => []
  | some g => markL 62 g) ++ (if sOf S t = true then [33] else [])
def siL (S : St) : List Nat := (List.range (sNb S)).map (sgn S)
def gTrn (G : Gme) (x : Int32) : GRs := match vi (sNt (gS G)) x with
  | none => (1, 0, G)
  | some t => (0, nI (trL (gS G) t).length, gOut G (trL (gS G) t))
def gSig (G : Gme) : GRs := (0, nI (siL (gS G)).length, gOut G (siL (gS G)))
def gChr (G : Gme) (x : Int32) : Nat × Int32 := onI (gO G).length x (fun i => (0, nI ((gO G).getD i 0)))
def gFeed (G : Gme) (c : Nat) : GRs := if gN G = 60 then (3, 0, G) else (0, nI (gN G + 1), (G.1, G.2.1, gO G, (va_up (gT G) (gN G) c, gN G + 1), G.2.2.2.2))
/-- the call that a command stands for -/
noncomputable def doC (S : St) (c : Nat × List Nat) : Rs := match c.1 with
  | 0 => oAdd S (nI (c.2.getD 0 0)) false
  | 1 => oAdd S (nI (c.2.getD 0 0)) true
  | 2 => oJoin S (nI (c.2.getD 0 0)) (nI (c.2.getD 1 0))
  | 3 => oTrain S (nI (c.2.getD 0 0)) (nI (c.2.getD 1 0))
  | 4 => oAim S (nI (c.2.getD 0 0)) (nI (c.2.getD 1 0))
  | 5 => oCat S (nI (c.2.getD 0 0))
  | 6 => oHold S (nI (c.2.getD 0 0)) (nI (c.2.getD 1 0))
  | 7 => oResc S (nI (c.2.getD 0 0))
  | _ => oTick S (nI (c.2.getD 0 0))
noncomputable def runC : List (Nat × List Nat) → Nat → St → Option Nat × St
  | [], _, S => (none, S)
  | c :: cs, k, S => if (doC S c).1 = 0 then runC cs (k + 1) (doC S c).2.2 else (some k, S)
def gN0 (G : Gme) : Gme := (G.1, G.2.1, gO G, (gT G, 0), G.2.2.2.2)
noncomputable def gExec (G : Gme) : GRs := match (pAll (gT G) (gN G) 61 0).2 with
  | some q => (2, 0, (G.1, G.2.1, gO G, (gT G, 0), (some q, gF G)))
  | none => match runC (pAll (gT G) (gN G) 61 0).1 0 (gS G) with
    | (some k, _) => (4, 0, (G.1, G.2.1, gO G, (gT G, 0), (gE G, some k)))
    | (none, S') => (0, nI (pAll (gT G) (gN G) 61 0).1.length, gPush (gN0 G) S')
def gUndo (G : Gme) : GRs := if gC G = 0 then (3, 0, G) else (0, nI (gC G - 1), ((gP G (gC G - 1), gV G, gH G), (gP G, gC G - 1), G.2.2))
def gSave (G : Gme) : GRs := (0, nI (sNb (gS G)), ((gS G, gS G, true), G.2))
def gRest (G : Gme) : GRs := if gH G = true then (0, nI (sNb (gV G)), ((gV G, gV G, gH G), (gP G, 0), G.2.2)) else (3, 0, G)
noncomputable def qArr (S : St) (x : Int32) : Nat × Int32 := onI (sNt S) x (fun t => match sGo S t with
  | none => (5, 0)
  | some _ => opA (tta S t))
theorem trL_len {S : St} (h : WF S) {t : Nat} (ht : t < sNt S) : (trL S t).length ≤ 11 := by
  have h1 := h.2.2.2.2.1 t ht
  have hnb := h.nb
  have hnt := h.nt
  have m1 : ∀ c k, k < 10 → (markL c k).length = 2 := fun c k hk => by unfold markL; rw [if_neg (by omega)]; rfl
  have m2 : ∀ c k, (markL c k).length ≤ 3 := fun c k => by unfold markL; split <;> simp
  unfold trL
  simp only [List.length_append]
  have a1 := m1 84 t (by omega)
  have a2 := m2 64 (sPl S t)
  have a3 : (if 0 < sRe S t then markL 43 (sRe S t) else []).length ≤ 2 := by
    split
    · rw [m1 _ _ (by omega)]; exact Nat.le_refl _
    · exact Nat.zero_le _
  have a4 : (match sGo S t with | none => [] | some g => markL 62 g).length ≤ 3 := by
    cases sGo S t with
    | none => exact Nat.zero_le _
    | some g => exact m2 62 g
  have a5 : (if sOf S t = true then [33] else ([] : List Nat)).length ≤ 1 := by split <;> decide
  omega
theorem siL_len (S : St) : (siL S).length = sNb S := by unfold siL; rw [List.length_map, List.length_range]
/-! what every change's answer is like -/
def ROK (S : St) (R : Rs) : Prop := R.1 ≤ 5 ∧ (R.1 ≠ 0 → R.2.2 = S) ∧ (R.1 = 0 → ∃ k, k < 2 ^ 31 ∧ R.2.1 = nI k)
theorem rok_no {S : St} {c : Nat} (h : c + 1 ≤ 5) : ROK S (c + 1, 0, S) := ⟨h, fun _ => rfl, fun e => absurd e (Nat.succ_ne_zero c)⟩
theorem rok_ok {S S' : St} {k : Nat} (hk : k < 2 ^ 31) : ROK S (0, nI k, S') := ⟨Nat.zero_le _, fun e => absurd rfl e, fun _ => ⟨k, hk, rfl⟩⟩
theorem cnt_lt31 {n : Nat} (p : Nat → Bool) (h : n ≤ 14) : cnt n p < 2 ^ 31 := by have := cnt_le n p; omega
theorem rok_add {S : St} (h : WF S) (x : Int32) (c : Bool) : ROK S (oAdd S x c) := by
  have hnb := h.nb
  unfold oAdd
  split
  · exact rok_no (by decide)
  · split
    · exact rok_no (by decide)
    · exact rok_ok (by omega)
theorem rok_join {S : St} (h : WF S) (x y : Int32) : ROK S (oJoin S x y) := by
  have hnb := h.nb
  unfold oJoin
  split
  · rename_i a b ha hb
    have h1 := (vi_some (by omega) ha).1
    have h2 := (vi_some (by omega) hb).1
    split
    · exact rok_no (by decide)
    · rename_i hne
      split
      · exact rok_no (by decide)
      · have := lkN_b (wf_link h h1 h2 hne true)
        exact rok_ok (by have : lkN (sLink S a b true) (sNb S) < 256 := this; omega)
  · exact rok_no (by decide)
theorem rok_part {S : St} (h : WF S) (x y : Int32) : ROK S (oPart S x y) := by
  have hnb := h.nb
  unfold oPart
  split
  · rename_i a b ha hb
    have h1 := (vi_some (by omega) ha).1
    have h2 := (vi_some (by omega) hb).1
    split
    · rename_i hl
      have := lkN_b (wf_link h h1 h2 (h.2.2.2.1 _ _ hl).2.2.1 false)
      exact rok_ok (by have : lkN (sLink S a b false) (sNb S) < 256 := this; omega)
    · exact rok_no (by decide)
  · exact rok_no (by decide)
theorem rok_cat {S : St} (h : WF S) (x : Int32) : ROK S (oCat S x) := by
  have hnb := h.nb
  unfold oCat
  split
  · exact rok_no (by decide)
  · split
    · exact rok_no (by decide)
    · split
      · exact rok_no (by decide)
      · exact rok_ok (cnt_lt31 _ hnb)
theorem rok_shoo {S : St} (h : WF S) (x : Int32) : ROK S (oShoo S x) := by
  have hnb := h.nb
  unfold oShoo
  split
  · exact rok_no (by decide)
  · split
    · exact rok_ok (cnt_lt31 _ hnb)
    · exact rok_no (by decide)
theorem rok_train {S : St} (h : WF S) (x y : Int32) : ROK S (oTrain S x y) := by
  have hnt := h.nt
  unfold oTrain
  split
  · exact rok_no (by decide)
  · split
    · exact rok_no (by decide)
    · split
      · exact rok_no (by decide)
      · split
        · split
          · exact rok_no (by decide)
          · exact rok_ok (by omega)
        · exact rok_no (by decide)
theorem rok_aim {S : St} (h : WF S) (x y : Int32) : ROK S (oAim S x y) := by
  have hnb := h.nb
  unfold oAim
  split
  · rename_i t b ht hb
    have h2 := (vi_some (by omega) hb).1
    split
    · exact rok_no (by decide)
    · split
      · exact rok_no (by decide)
      · split
        · exact rok_no (by decide)
        · rename_i c hc
          have := dS_le h h2 hc
          exact rok_ok (by omega)
  · exact rok_no (by decide)
theorem rok_drop {S : St} (h : WF S) (x : Int32) : ROK S (oDrop S x) := by
  have hnb := h.nb
  have hnt := h.nt
  unfold oDrop
  split
  · exact rok_no (by decide)
  · rename_i t ht
    have h1 := (vi_some (by omega) ht).1
    split
    · exact rok_no (by decide)
    · rename_i g hg
      have := h.2.2.2.2.2.1 t h1 g hg
      exact rok_ok (by omega)
theorem rok_hold {S : St} (h : WF S) (x y : Int32) : ROK S (oHold S x y) := by
  have hnt := h.nt
  unfold oHold
  split
  · split
    · exact rok_no (by decide)
    · split
      · exact rok_no (by decide)
      · split
        · exact rok_ok (cnt_lt31 _ (by omega))
        · exact rok_no (by decide)
  · exact rok_no (by decide)
theorem rok_free {S : St} (h : WF S) (x : Int32) : ROK S (oFree S x) := by
  have hnb := h.nb
  have hnt := h.nt
  unfold oFree
  split
  · exact rok_no (by decide)
  · rename_i t ht
    have h1 := (vi_some (by omega) ht).1
    split
    · exact rok_no (by decide)
    · rename_i b hb
      have := h.2.2.2.2.2.2.1 t h1 b hb
      exact rok_ok (by omega)
theorem rok_resc {S : St} (h : WF S) (x : Int32) : ROK S (oResc S x) := by
  have hnt := h.nt
  unfold oResc
  split
  · exact rok_no (by decide)
  · split
    · exact rok_ok (cnt_lt31 _ (by omega))
    · exact rok_no (by decide)
theorem ar_act (S : St) (t : Nat) : sAr (act S t) = sAr S ∨ sAr (act S t) = sAr S + 1 := by
  unfold act
  split
  · exact Or.inl rfl
  · split
    · exact Or.inl rfl
    · split
      · exact Or.inl rfl
      · split
        · show (if _ then _ else _) = _ ∨ (if _ then _ else _) = _
          split
          · exact Or.inr rfl
          · exact Or.inl rfl
        · exact Or.inl rfl
theorem ar_acts (S : St) : ∀ r, ∃ k, k ≤ r ∧ sAr (acts S r) = sAr S + nI k := by
  intro r
  induction r with
  | zero => exact ⟨0, Nat.le_refl _, (Int32.add_zero _).symm⟩
  | succ r ih =>
    obtain ⟨k, h1, h2⟩ := ih
    unfold acts
    split
    · exact ⟨k, by omega, h2⟩
    · rename_i t _
      rcases ar_act (acts S r) t with e | e
      · exact ⟨k, by omega, e.trans h2⟩
      · exact ⟨k + 1, by omega, by rw [e, h2, Int32.add_assoc, nI_1]⟩
theorem ar_ticks {S : St} (h : WF S) : ∀ c, ∃ k, k ≤ 6 * c ∧ sAr (ticksN c S) = sAr S + nI k := by
  intro c
  induction c with
  | zero => exact ⟨0, Nat.le_refl _, (Int32.add_zero _).symm⟩
  | succ c ih =>
    obtain ⟨k, h1, h2⟩ := ih
    obtain ⟨j, h3, h4⟩ := ar_acts (ticksN c S) (sNt (ticksN c S))
    have h5 := (ticks_nn S c).2
    have h6 := h.nt
    refine ⟨k + j, by rw [h5] at h3; omega, ?_⟩
    show sAr (acts (ticksN c S) (sNt (ticksN c S))) = _
    rw [h4, h2, Int32.add_assoc, nI_add]
theorem rok_tick {S : St} (h : WF S) (x : Int32) : ROK S (oTick S x) := by
  unfold oTick
  split
  · rename_i hx
    obtain ⟨k, h1, h2⟩ := ar_ticks h x.toInt.toNat
    rw [h2, Int32.add_comm, Int32.add_sub_cancel]
    exact rok_ok (by omega)
  · exact rok_no (by decide)
theorem wf_oAdd {S : St} (h : WF S) (x : Int32) (c : Bool) : WF (oAdd S x c).2.2 := by
  unfold oAdd
  split
  · exact h
  · rename_i k hk
    obtain ⟨h1, h2, -⟩ := v19_some hk
    have hnb := h.nb
    split
    · exact h
    · exact wf_add h (by omega) h1 h2 c
end JGAME

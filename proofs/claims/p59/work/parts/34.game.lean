/-! What whole has of its reference side that speaks of the railway as a value alone -/
section JPURE2
theorem oI_s (k : Nat) : oI (some k) = nI k := rfl
/-- an error's number, as a method counts its exceptions -/
def cod (l : List Nat) (c : Nat) : Nat := if c = 0 then 0 else l.idxOf c + 1
abbrev Gme : Type := (St × St × Bool) × ((Nat → St) × Nat) × List Nat × ((Nat → Nat) × Nat) × (Option Nat × Option Nat)
def gS (G : Gme) : St := G.1.1
def gV (G : Gme) : St := G.1.2.1
def gH (G : Gme) : Bool := G.1.2.2
def gP (G : Gme) : Nat → St := G.2.1.1
def gC (G : Gme) : Nat := G.2.1.2
def gO (G : Gme) : List Nat := G.2.2.1
def gT (G : Gme) : Nat → Nat := G.2.2.2.1.1
def gN (G : Gme) : Nat := G.2.2.2.1.2
def gE (G : Gme) : Option Nat := G.2.2.2.2.1
def gF (G : Gme) : Option Nat := G.2.2.2.2.2
abbrev GRs : Type := Nat × Int32 × Gme
def gPush (G : Gme) (S : St) : Gme := ((S, gV G, gH G), (pushP (gP G) (gC G) (gS G), pushN (gC G)), G.2.2)
def gMut (G : Gme) (R : Rs) : GRs := if R.1 = 0 then (0, R.2.1, gPush G R.2.2) else (R.1, 0, G)
def gQ (G : Gme) (q : Nat × Int32) : GRs := (q.1, q.2, G)
def onI (n : Nat) (x : Int32) (f : Nat → Nat × Int32) : Nat × Int32 := match vi n x with
  | none => (1, 0)
  | some b => f b
def opA (o : Option Nat) : Nat × Int32 := match o with
  | none => (5, 0)
  | some k => (0, nI k)
def ok0 (v : Int32) : Nat × Int32 := (0, v)
def gOut (G : Gme) (l : List Nat) : Gme := (G.1, G.2.1, l, G.2.2.2)
def gFeed (G : Gme) (c : Nat) : GRs := if gN G = 60 then (3, 0, G) else (0, nI (gN G + 1), (G.1, G.2.1, gO G, (va_up (gT G) (gN G) c, gN G + 1), G.2.2.2.2))
/-- the call that a command stands for -/
noncomputable def doC (S : St) (c : Nat × List Nat) : Rs := match c.1 with
  | 0 => oAdd S (nI (c.2.getD 0 0)) false
  | 1 => oAdd S (nI (c.2.getD 0 0)) true
  | 2 => oJoin S (nI (c.2.getD 0 0)) (nI (c.2.getD 1 0))
  | 3 => oTrain S (nI (c.2.getD 0 0)) (nI (c.2.getD 1 0))
  | 4 => oAim S (nI (c.2.getD 0 0)) (nI (c.2.getD 1 0))
  | 5 => oCat S (nI (c.2.getD 0 0))
  | 6 => oHold S (nI (c.2.getD 0 0)) (nI (c.2.getD 1 0))
  | 7 => oResc S (nI (c.2.getD 0 0))
  | _ => oTick S (nI (c.2.getD 0 0))
noncomputable def runC : List (Nat × List Nat) → Nat → St → Option Nat × St
  | [], _, S => (none, S)
  | c :: cs, k, S => if (doC S c).1 = 0 then runC cs (k + 1) (doC S c).2.2 else (some k, S)
def gN0 (G : Gme) : Gme := (G.1, G.2.1, gO G, (gT G, 0), G.2.2.2.2)
noncomputable def gExec (G : Gme) : GRs := match (pAll (gT G) (gN G) 61 0).2 with
  | some q => (2, 0, (G.1, G.2.1, gO G, (gT G, 0), (some q, gF G)))
  | none => match runC (pAll (gT G) (gN G) 61 0).1 0 (gS G) with
    | (some k, _) => (4, 0, (G.1, G.2.1, gO G, (gT G, 0), (gE G, some k)))
    | (none, S') => (0, nI (pAll (gT G) (gN G) 61 0).1.length, gPush (gN0 G) S')
def gUndo (G : Gme) : GRs := if gC G = 0 then (3, 0, G) else (0, nI (gC G - 1), ((gP G (gC G - 1), gV G, gH G), (gP G, gC G - 1), G.2.2))
def gSave (G : Gme) : GRs := (0, nI (sNb (gS G)), ((gS G, gS G, true), G.2))
def gRest (G : Gme) : GRs := if gH G = true then (0, nI (sNb (gV G)), ((gV G, gV G, gH G), (gP G, 0), G.2.2)) else (3, 0, G)
noncomputable def qArr (S : St) (x : Int32) : Nat × Int32 := onI (sNt S) x (fun t => match sGo S t with
  | none => (5, 0)
  | some _ => opA (tta S t))
def ROK (S : St) (R : Rs) : Prop := R.1 ≤ 5 ∧ (R.1 ≠ 0 → R.2.2 = S) ∧ (R.1 = 0 → ∃ k, k < 2 ^ 31 ∧ R.2.1 = nI k)
theorem rok_no {S : St} {c : Nat} (h : c + 1 ≤ 5) : ROK S (c + 1, 0, S) := ⟨h, fun _ => rfl, fun e => absurd e (Nat.succ_ne_zero c)⟩
theorem rok_ok {S S' : St} {k : Nat} (hk : k < 2 ^ 31) : ROK S (0, nI k, S') := ⟨Nat.zero_le _, fun e => absurd rfl e, fun _ => ⟨k, hk, rfl⟩⟩
theorem cnt_lt31 {n : Nat} (p : Nat → Bool) (h : n ≤ 14) : cnt n p < 2 ^ 31 := by have := cnt_le n p; omega
theorem rok_add {S : St} (h : WF S) (x : Int32) (c : Bool) : ROK S (oAdd S x c) := by
  have hnb := h.nb
  unfold oAdd
  split
  · exact rok_no (by decide)
  · split
    · exact rok_no (by decide)
    · exact rok_ok (by omega)
theorem rok_join {S : St} (h : WF S) (x y : Int32) : ROK S (oJoin S x y) := by
  have hnb := h.nb
  unfold oJoin
  split
  · rename_i a b ha hb
    have h1 := (vi_some (by omega) ha).1
    have h2 := (vi_some (by omega) hb).1
    split
    · exact rok_no (by decide)
    · rename_i hne
      split
      · exact rok_no (by decide)
      · have := lkN_b (wf_link h h1 h2 hne true)
        exact rok_ok (by have : lkN (sLink S a b true) (sNb S) < 256 := this; omega)
  · exact rok_no (by decide)
theorem rok_part {S : St} (h : WF S) (x y : Int32) : ROK S (oPart S x y) := by
  have hnb := h.nb
  unfold oPart
  split
  · rename_i a b ha hb
    have h1 := (vi_some (by omega) ha).1
    have h2 := (vi_some (by omega) hb).1
    split
    · rename_i hl
      have := lkN_b (wf_link h h1 h2 (h.2.2.2.1 _ _ hl).2.2.1 false)
      exact rok_ok (by have : lkN (sLink S a b false) (sNb S) < 256 := this; omega)
    · exact rok_no (by decide)
  · exact rok_no (by decide)
theorem rok_cat {S : St} (h : WF S) (x : Int32) : ROK S (oCat S x) := by
  have hnb := h.nb
  unfold oCat
  split
  · exact rok_no (by decide)
  · split
    · exact rok_no (by decide)
    · split
      · exact rok_no (by decide)
      · exact rok_ok (cnt_lt31 _ hnb)
theorem rok_shoo {S : St} (h : WF S) (x : Int32) : ROK S (oShoo S x) := by
  have hnb := h.nb
  unfold oShoo
  split
  · exact rok_no (by decide)
  · split
    · exact rok_ok (cnt_lt31 _ hnb)
    · exact rok_no (by decide)
theorem rok_train {S : St} (h : WF S) (x y : Int32) : ROK S (oTrain S x y) := by
  have hnt := h.nt
  unfold oTrain
  split
  · exact rok_no (by decide)
  · split
    · exact rok_no (by decide)
    · split
      · exact rok_no (by decide)
      · split
        · split
          · exact rok_no (by decide)
          · exact rok_ok (by omega)
        · exact rok_no (by decide)
theorem rok_aim {S : St} (h : WF S) (x y : Int32) : ROK S (oAim S x y) := by
  have hnb := h.nb
  unfold oAim
  split
  · rename_i t b ht hb
    have h2 := (vi_some (by omega) hb).1
    split
    · exact rok_no (by decide)
    · split
      · exact rok_no (by decide)
      · split
        · exact rok_no (by decide)
        · rename_i c hc
          have := dS_le h h2 hc
          exact rok_ok (by omega)
  · exact rok_no (by decide)
theorem rok_drop {S : St} (h : WF S) (x : Int32) : ROK S (oDrop S x) := by
  have hnb := h.nb
  have hnt := h.nt
  unfold oDrop
  split
  · exact rok_no (by decide)
  · rename_i t ht
    have h1 := (vi_some (by omega) ht).1
    split
    · exact rok_no (by decide)
    · rename_i g hg
      have := h.2.2.2.2.2.1 t h1 g hg
      exact rok_ok (by omega)
theorem rok_hold {S : St} (h : WF S) (x y : Int32) : ROK S (oHold S x y) := by
  have hnt := h.nt
  unfold oHold
  split
  · split
    · exact rok_no (by decide)
    · split
      · exact rok_no (by decide)
      · split
        · exact rok_ok (cnt_lt31 _ (by omega))
        · exact rok_no (by decide)
  · exact rok_no (by decide)
theorem rok_free {S : St} (h : WF S) (x : Int32) : ROK S (oFree S x) := by
  have hnb := h.nb
  have hnt := h.nt
  unfold oFree
  split
  · exact rok_no (by decide)
  · rename_i t ht
    have h1 := (vi_some (by omega) ht).1
    split
    · exact rok_no (by decide)
    · rename_i b hb
      have := h.2.2.2.2.2.2.1 t h1 b hb
      exact rok_ok (by omega)
theorem rok_resc {S : St} (h : WF S) (x : Int32) : ROK S (oResc S x) := by
  have hnt := h.nt
  unfold oResc
  split
  · exact rok_no (by decide)
  · split
    · exact rok_ok (cnt_lt31 _ (by omega))
    · exact rok_no (by decide)
theorem ar_act (S : St) (t : Nat) : sAr (act S t) = sAr S ∨ sAr (act S t) = sAr S + 1 := by
  unfold act
  split
  · exact Or.inl rfl
  · split
    · exact Or.inl rfl
    · split
      · exact Or.inl rfl
      · split
        · show (if _ then _ else _) = _ ∨ (if _ then _ else _) = _
          split
          · exact Or.inr rfl
          · exact Or.inl rfl
        · exact Or.inl rfl
theorem ar_acts (S : St) : ∀ r, ∃ k, k ≤ r ∧ sAr (acts S r) = sAr S + nI k := by
  intro r
  induction r with
  | zero => exact ⟨0, Nat.le_refl _, (Int32.add_zero _).symm⟩
  | succ r ih =>
    obtain ⟨k, h1, h2⟩ := ih
    unfold acts
    split
    · exact ⟨k, by omega, h2⟩
    · rename_i t _
      rcases ar_act (acts S r) t with e | e
      · exact ⟨k, by omega, e.trans h2⟩
      · exact ⟨k + 1, by omega, by rw [e, h2, Int32.add_assoc, nI_1]⟩
theorem ar_ticks {S : St} (h : WF S) : ∀ c, ∃ k, k ≤ 6 * c ∧ sAr (ticksN c S) = sAr S + nI k := by
  intro c
  induction c with
  | zero => exact ⟨0, Nat.le_refl _, (Int32.add_zero _).symm⟩
  | succ c ih =>
    obtain ⟨k, h1, h2⟩ := ih
    obtain ⟨j, h3, h4⟩ := ar_acts (ticksN c S) (sNt (ticksN c S))
    have h5 := (ticks_nn S c).2
    have h6 := h.nt
    refine ⟨k + j, by rw [h5] at h3; omega, ?_⟩
    show sAr (acts (ticksN c S) (sNt (ticksN c S))) = _
    rw [h4, h2, Int32.add_assoc, nI_add]
theorem rok_tick {S : St} (h : WF S) (x : Int32) : ROK S (oTick S x) := by
  unfold oTick
  split
  · rename_i hx
    obtain ⟨k, h1, h2⟩ := ar_ticks h x.toInt.toNat
    rw [h2, Int32.add_comm, Int32.add_sub_cancel]
    exact rok_ok (by omega)
  · exact rok_no (by decide)
theorem onI_no {n : Nat} {x : Int32} {f : Nat → Nat × Int32} (h : vi n x = none) : onI n x f = (1, 0) := by unfold onI; rw [h]
theorem onI_ok {n k : Nat} {x : Int32} {f : Nat → Nat × Int32} (h : vi n x = some k) : onI n x f = f k := by unfold onI; rw [h]
theorem gQ_eq {G : Gme} {q : Nat × Int32} {c : Nat} {v : Int32} (e : q = (c, v)) : gQ G q = (c, v, G) := by rw [e]; rfl
def onB2 (S : St) (y z : Int32) (f : Nat → Nat → Nat × Int32) : Nat × Int32 := match vi (sNb S) y, vi (sNb S) z with
  | some a, some b => f a b
  | _, _ => (1, 0)
theorem onB2_n1 {S : St} {y z : Int32} {f : Nat → Nat → Nat × Int32} (h : vi (sNb S) y = none) : onB2 S y z f = (1, 0) := by unfold onB2; rw [h]
theorem onB2_n2 {S : St} {y z : Int32} {f : Nat → Nat → Nat × Int32} (h : vi (sNb S) z = none) : onB2 S y z f = (1, 0) := by unfold onB2; rw [h]; cases vi (sNb S) y <;> rfl
theorem onB2_ok {S : St} {y z : Int32} {a b : Nat} {f : Nat → Nat → Nat × Int32} (h : vi (sNb S) y = some a) (h2 : vi (sNb S) z = some b) : onB2 S y z f = f a b := by unfold onB2; rw [h, h2]
theorem sgn_lt (S : St) (b : Nat) : sgn S b < 256 := by
  unfold sgn
  split
  · omega
  · split
    · omega
    · split <;> omega
theorem narC : ∀ c, c < 256 → narrow .char (.int (nI c)) = .int (nI c) := fun c hc => congrArg Value.int (i2c_n c hc)
theorem n64_of {r : UInt64} (h : r.toNat % 2 ^ 63 ≤ 9218868437227405312) : vf_n64 r := by
  unfold vf_n64
  rw [UInt64.le_iff_toNat_le, UInt64.toNat_and]
  have e : (0x7fffffffffffffff : UInt64).toNat = 2 ^ 63 - 1 := by decide
  rw [e, Nat.and_two_pow_sub_one_eq_mod]
  exact h
theorem ddiv_n {a b : Int32} (hb : b ≠ 0) : vf_n64 (FP.ddiv (FP.i2d a) (FP.i2d b)) := by
  apply n64_of
  have h1 : FP.Core.dIsNaN (FP.Core.ddiv (FP.Core.i2d a) (FP.Core.i2d b)) = false := FP.Core.ddiv_out (FP.Core.DFin.notNaN (FP.Core.i2d_fin a)) (FP.Core.i2d_fin b) (fun z => FP.Core.i2d_ne_zero hb ((FP.Core.zero_bits2 _).mp z))
  exact (FP.Core.ne_nan _).mp ((FP.Core.notNaN_iff _).mp h1)
def gMean (S : St) : UInt64 := FP.ddiv (FP.i2d (sumW (sWa S) (sNt S))) (FP.i2d (nI (sNt S)))
def gOcc (S : St) : UInt32 := FP.fdiv (FP.i2f (nI (sNt S))) (FP.i2f (nI (sNb S)))
theorem occ_t : ∀ a, a < 7 → ∀ b, b < 14 → (FP.fdiv (FP.i2f (nI a)) (FP.i2f (nI (b + 1))) &&& 0x7fffffff ≤ 0x7f800000) ∧ (FP.f2d (FP.fdiv (FP.i2f (nI a)) (FP.i2f (nI (b + 1)))) &&& 0x7fffffffffffffff ≤ 0x7ff0000000000000) := by decide +kernel
theorem occ_n {S : St} (h : WF S) (hb : sNb S ≠ 0) : vf_n32 (gOcc S) ∧ vf_n64 (FP.f2d (gOcc S)) := by
  have hnb := h.nb
  have hnt := h.nt
  have := occ_t (sNt S) (by omega) (sNb S - 1) (by omega)
  rw [show sNb S - 1 + 1 = sNb S by omega] at this
  exact this
theorem mean_n {S : St} (h : WF S) (hb : sNt S ≠ 0) : vf_n64 (gMean S) := ddiv_n (fun z => by
  have hnt := h.nt
  have := nI_inj (a := sNt S) (b := 0) (by omega) (by omega) z
  omega)
theorem tta_lt {S : St} {t k : Nat} (h : tta S t = some k) : 1 ≤ k ∧ k ≤ 99 := by
  unfold tta at h
  cases e : fnd 99 (fun k => (sGo (ticksN (k + 1) S) t).isNone) with
  | none => rw [e] at h; cases h
  | some j =>
    rw [e] at h
    cases h
    have := (fnd_is e).1
    exact ⟨Nat.succ_pos _, by show j + 1 ≤ 99; omega⟩
theorem qArr_ok {S : St} {i gg : Nat} (e : vi (sNt S) (nI i) = some i) (h : sGo S i = some gg) : qArr S (nI i) = opA (tta S i) := by unfold qArr; rw [onI_ok e, h]
theorem qArr_no1 {S : St} {y : Int32} (e : vi (sNt S) y = none) : qArr S y = (1, 0) := onI_no e
theorem qArr_no2 {S : St} {i : Nat} (e : vi (sNt S) (nI i) = some i) (h : sGo S i = none) : qArr S (nI i) = (5, 0) := by unfold qArr; rw [onI_ok e, h]
theorem feed_60 {G : Gme} {c : Nat} (h : gN G = 60) : gFeed G c = (3, 0, G) := if_pos h
theorem feed_ok {G : Gme} {c : Nat} (h : ¬ gN G = 60) : gFeed G c = (0, nI (gN G + 1), (G.1, G.2.1, gO G, (va_up (gT G) (gN G) c, gN G + 1), G.2.2.2.2)) := if_neg h
theorem rest_no {G : Gme} (h : gH G = false) : gRest G = (3, 0, G) := if_neg (by rw [h]; decide)
theorem rest_ok {G : Gme} (h : gH G = true) : gRest G = (0, nI (sNb (gV G)), ((gV G, gV G, gH G), (gP G, 0), G.2.2)) := if_pos h
theorem undo_no {G : Gme} (h : gC G = 0) : gUndo G = (3, 0, G) := if_pos h
theorem undo_ok {G : Gme} (h : ¬ gC G = 0) : gUndo G = (0, nI (gC G - 1), ((gP G (gC G - 1), gV G, gH G), (gP G, gC G - 1), G.2.2)) := if_neg h
theorem exec_err {G : Gme} {q : Nat} (h : (pAll (gT G) (gN G) 61 0).2 = some q) : gExec G = (2, 0, (G.1, G.2.1, gO G, (gT G, 0), (some q, gF G))) := by unfold gExec; rw [h]
theorem exec_bad {G : Gme} {k : Nat} {S : St} (h : (pAll (gT G) (gN G) 61 0).2 = none) (h2 : runC (pAll (gT G) (gN G) 61 0).1 0 (gS G) = (some k, S)) : gExec G = (4, 0, (G.1, G.2.1, gO G, (gT G, 0), (gE G, some k))) := by unfold gExec; rw [h]; simp only; rw [h2]
theorem exec_ok {G : Gme} {S : St} (h : (pAll (gT G) (gN G) 61 0).2 = none) (h2 : runC (pAll (gT G) (gN G) 61 0).1 0 (gS G) = (none, S)) : gExec G = (0, nI (pAll (gT G) (gN G) 61 0).1.length, gPush (gN0 G) S) := by unfold gExec; rw [h]; simp only; rw [h2]
theorem runC_y {c : Nat × List Nat} {cs : List (Nat × List Nat)} {k : Nat} {S : St} (h : (doC S c).1 = 0) : runC (c :: cs) k S = runC cs (k + 1) (doC S c).2.2 := by show (if _ then _ else _) = _; rw [if_pos h]
theorem runC_n {c : Nat × List Nat} {cs : List (Nat × List Nat)} {k : Nat} {S : St} (h : ¬ (doC S c).1 = 0) : runC (c :: cs) k S = (some k, S) := by show (if _ then _ else _) = _; rw [if_neg h]
end JPURE2

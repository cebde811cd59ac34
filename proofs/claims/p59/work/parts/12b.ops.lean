/-! THE CHANGES OF THE RAILWAY, as functions: an error (1 no index, 2 bad argument, 3 bad state, 4 unsupported, 5 not found; 0 none), an answer, the railway behind it -/
section JOPS
theorem up_s {α : Type} (f : Nat → α) (k : Nat) (v : α) : va_up f k v k = v := by unfold va_up; rw [if_pos rfl]
theorem up_n {α : Type} (f : Nat → α) {k j : Nat} (v : α) (h : j ≠ k) : va_up f k v j = f j := by unfold va_up; rw [if_neg h]
def tAt (S : St) (b : Nat) : Option Nat := fnd (sNt S) (fun t => sPl S t == b)
def hOf (S : St) (b : Nat) : Option Nat := fnd (sNt S) (fun t => sHo S t == some b)
theorem tAt_some {S : St} {b t : Nat} (h : tAt S b = some t) : t < sNt S ∧ sPl S t = b := by
  obtain ⟨h1, h2, -⟩ := fnd_is h
  exact ⟨h1, by simpa using h2⟩
theorem tAt_none {S : St} {b : Nat} (h : tAt S b = none) : ∀ t, t < sNt S → sPl S t ≠ b := fun t ht e => by
  have := fnd_no h t ht
  simp [e] at this
theorem hOf_some {S : St} {b t : Nat} (h : hOf S b = some t) : t < sNt S ∧ sHo S t = some b := by
  obtain ⟨h1, h2, -⟩ := fnd_is h
  exact ⟨h1, by simpa using h2⟩
theorem hOf_none {S : St} {b : Nat} (h : hOf S b = none) : ∀ t, t < sNt S → sHo S t ≠ some b := fun t ht e => by
  have := fnd_no h t ht
  simp [e] at this
noncomputable def dS (S : St) (a g : Nat) : Option Nat := dst (sLen S) (sLk S) a g
/-- the next block of a train -/
noncomputable def nx (S : St) (t : Nat) : Option Nat := match sGo S t with
  | none => none
  | some g => if g = sPl S t then none else match dS S (sPl S t) g with
    | none => none
    | some c => fnd (sNb S) (fun b => sLk S (sPl S t) b && (match dS S b g with
      | none => false
      | some c' => c' + sLen S b == c))
/-- the sum of the number of links -/
def lkN (S : St) : Nat → Nat
  | 0 => 0
  | n + 1 => lkN S n + cnt n (sLk S n)
abbrev Rs : Type := Nat × Int32 × St
def v19 (x : Int32) : Option Nat := if 1 ≤ x.toInt ∧ x.toInt ≤ 9 then some x.toInt.toNat else none
theorem v19_some {x : Int32} {k : Nat} (h : v19 x = some k) : 1 ≤ k ∧ k ≤ 9 ∧ x = nI k := by
  unfold v19 at h
  split at h
  · rename_i hh
    cases h
    refine ⟨by omega, by omega, ?_⟩
    apply Int32.toInt_inj.mp
    rw [nI_toInt (by omega)]
    omega
  · cases h
theorem v19_none {x : Int32} (h : x < nI 1 ∨ nI 9 < x) : v19 x = none := by
  rw [lt_nI (by omega), nI_lt' (by omega)] at h
  unfold v19
  rw [if_neg (by omega)]
theorem v19_is {x : Int32} (h1 : ¬ x < nI 1) (h2 : ¬ nI 9 < x) : ∃ k, v19 x = some k := by
  rw [lt_nI (by omega)] at h1
  rw [nI_lt' (by omega)] at h2
  unfold v19
  rw [if_pos (by omega)]
  exact ⟨_, rfl⟩
def sAdd (S : St) (k : Nat) (c : Bool) : St := ((sNb S + 1, sNt S, sTk S, sAr S), (va_up (sLen S) (sNb S) k, va_up (sCu S) (sNb S) c, sCa S, sLk S), S.2.2)
def oAdd (S : St) (x : Int32) (c : Bool) : Rs := match v19 x with
  | none => (2, 0, S)
  | some k => if sNb S = 14 then (3, 0, S) else (0, nI (sNb S), sAdd S k c)
def sLink (S : St) (a b : Nat) (v : Bool) : St := (S.1, (sLen S, sCu S, sCa S, va_up (va_up (sLk S) a (va_up (sLk S a) b v)) b (va_up (sLk S b) a v)), S.2.2)
def oJoin (S : St) (x y : Int32) : Rs := match vi (sNb S) x, vi (sNb S) y with
  | some a, some b => if a = b then (2, 0, S) else if sLk S a b = true then (3, 0, S) else (0, nI (lkN (sLink S a b true) (sNb S)), sLink S a b true)
  | _, _ => (1, 0, S)
def oPart (S : St) (x y : Int32) : Rs := match vi (sNb S) x, vi (sNb S) y with
  | some a, some b => if sLk S a b = true then (0, nI (lkN (sLink S a b false) (sNb S)), sLink S a b false) else (5, 0, S)
  | _, _ => (1, 0, S)
def sCat (S : St) (b : Nat) (v : Bool) : St := (S.1, (sLen S, sCu S, va_up (sCa S) b v, sLk S), S.2.2)
def oCat (S : St) (x : Int32) : Rs := match vi (sNb S) x with
  | none => (1, 0, S)
  | some b => if sCa S b = true then (3, 0, S) else match tAt S b with
    | some _ => (4, 0, S)
    | none => (0, nI (cnt (sNb S) (va_up (sCa S) b true)), sCat S b true)
def oShoo (S : St) (x : Int32) : Rs := match vi (sNb S) x with
  | none => (1, 0, S)
  | some b => if sCa S b = true then (0, nI (cnt (sNb S) (va_up (sCa S) b false)), sCat S b false) else (5, 0, S)
def sTrain (S : St) (b k : Nat) : St := ((sNb S, sNt S + 1, sTk S, sAr S), S.2.1, (va_up (sPl S) (sNt S) b, va_up (sPr S) (sNt S) k, va_up (sRe S) (sNt S) 0, va_up (sGo S) (sNt S) none, va_up (sHo S) (sNt S) none, sOf S, va_up (sWa S) (sNt S) 0))
def oTrain (S : St) (x y : Int32) : Rs := match vi (sNb S) x with
  | none => (1, 0, S)
  | some b => match v19 y with
    | none => (2, 0, S)
    | some k => if sNt S = 6 then (3, 0, S) else match tAt S b, hOf S b with
      | none, none => if sCa S b = true then (4, 0, S) else (0, nI (sNt S), sTrain S b k)
      | _, _ => (4, 0, S)
def sGoal (S : St) (t : Nat) (g : Option Nat) : St := (S.1, S.2.1, (sPl S, sPr S, sRe S, va_up (sGo S) t g, sHo S, sOf S, sWa S))
noncomputable def oAim (S : St) (x y : Int32) : Rs := match vi (sNt S) x, vi (sNb S) y with
  | some t, some b => if sCu S b = false then (2, 0, S) else if sPl S t = b then (4, 0, S) else match dS S (sPl S t) b with
    | none => (5, 0, S)
    | some c => (0, nI c, sGoal S t (some b))
  | _, _ => (1, 0, S)
def oDrop (S : St) (x : Int32) : Rs := match vi (sNt S) x with
  | none => (1, 0, S)
  | some t => match sGo S t with
    | none => (5, 0, S)
    | some g => (0, nI g, sGoal S t none)
def sHold (S : St) (t : Nat) (b : Option Nat) : St := (S.1, S.2.1, (sPl S, sPr S, sRe S, sGo S, va_up (sHo S) t b, sOf S, sWa S))
def oHold (S : St) (x y : Int32) : Rs := match vi (sNt S) x, vi (sNb S) y with
  | some t, some b => if sLk S (sPl S t) b = false then (2, 0, S) else match sHo S t with
    | some _ => (3, 0, S)
    | none => match tAt S b, hOf S b with
      | none, none => (0, nI (cnt (sNt S) (fun u => (va_up (sHo S) t (some b) u).isSome)), sHold S t (some b))
      | _, _ => (4, 0, S)
  | _, _ => (1, 0, S)
def oFree (S : St) (x : Int32) : Rs := match vi (sNt S) x with
  | none => (1, 0, S)
  | some t => match sHo S t with
    | none => (5, 0, S)
    | some b => (0, nI b, sHold S t none)
def sOff (S : St) (t : Nat) (v : Bool) : St := (S.1, S.2.1, (sPl S, sPr S, sRe S, sGo S, sHo S, va_up (sOf S) t v, sWa S))
def oResc (S : St) (x : Int32) : Rs := match vi (sNt S) x with
  | none => (1, 0, S)
  | some t => if sOf S t = true then (0, nI (cnt (sNt S) (va_up (sOf S) t false)), sOff S t false) else (3, 0, S)
/-- a train moves to a block -/
def sMove (S : St) (t b : Nat) : St := ((sNb S, sNt S, sTk S, if sGo S t = some b then sAr S + 1 else sAr S), (sLen S, sCu S, va_up (sCa S) b false, sLk S),
  (va_up (sPl S) t b, sPr S, va_up (sRe S) t (sLen S b), (if sGo S t = some b then va_up (sGo S) t none else sGo S), va_up (sHo S) t none, (if sCa S b = true then va_up (sOf S) t true else sOf S), sWa S))
def sLess (S : St) (t : Nat) : St := (S.1, S.2.1, (sPl S, sPr S, va_up (sRe S) t (sRe S t - 1), sGo S, sHo S, sOf S, sWa S))
def sWait (S : St) (t : Nat) : St := (S.1, S.2.1, (sPl S, sPr S, sRe S, sGo S, sHo S, sOf S, va_up (sWa S) t (sWa S t + 1)))
/-- what a train does in a tick -/
noncomputable def act (S : St) (t : Nat) : St :=
  if sOf S t = true then S else if 0 < sRe S t then sLess S t else match nx S t with
    | none => S
    | some b => if tAt S b = none ∧ (hOf S b = none ∨ hOf S b = some t) then sMove S t b else sWait S t
/-- the trains that are considered ahead of t -/
def ahd (S : St) (t : Nat) : Nat := cnt (sNt S) (fun u => decide (sPr S t < sPr S u) || (sPr S u == sPr S t && decide (u < t)))
def rkT (S : St) (r : Nat) : Option Nat := fnd (sNt S) (fun t => ahd S t == r)
/-- the trains of the ranks below r have acted -/
noncomputable def acts (S : St) : Nat → St
  | 0 => S
  | r + 1 => match rkT (acts S r) r with
    | none => acts S r
    | some t => act (acts S r) t
def sTick (S : St) : St := ((sNb S, sNt S, sTk S + 1, sAr S), S.2)
noncomputable def tick (S : St) : St := sTick (acts S (sNt S))
noncomputable def ticksN : Nat → St → St
  | 0, S => S
  | k + 1, S => tick (ticksN k S)
noncomputable def oTick (S : St) (x : Int32) : Rs := if 1 ≤ x.toInt ∧ x.toInt ≤ 50 then (0, sAr (ticksN x.toInt.toNat S) - sAr S, ticksN x.toInt.toNat S) else (2, 0, S)
/-! they keep what holds of every railway -/
theorem wf_add {S : St} (h : WF S) (hb : sNb S < 14) {k : Nat} (h1 : 1 ≤ k) (h2 : k ≤ 9) (c : Bool) : WF (sAdd S k c) := by
  obtain ⟨⟨a1, a2⟩, a3, a4, a5, a6, a7, a8, a9, a10, a11⟩ := h
  refine ⟨⟨by show sNb S + 1 ≤ 14; omega, a2⟩, fun b hb => ?_, fun b hb => ?_, fun a b hl => ?_, fun t ht => ?_, fun t ht g hg => ?_, fun t ht b hb => ?_, a9, a10, a11⟩
  · have hb : b < sNb S + 1 := hb
    show 1 ≤ va_up (sLen S) (sNb S) k b ∧ va_up (sLen S) (sNb S) k b ≤ 9
    by_cases e : b = sNb S
    · subst e; rw [up_s]; omega
    · rw [up_n _ _ e]; exact a3 b (by omega)
  · have hb : sNb S + 1 ≤ b := hb
    show va_up (sCu S) (sNb S) c b = false ∧ sCa S b = false
    rw [up_n _ _ (by omega)]
    exact a4 b (by omega)
  · have := a5 a b hl
    exact ⟨by show a < sNb S + 1; omega, by show b < sNb S + 1; omega, this.2.2⟩
  · have := a6 t ht
    exact ⟨by show sPl S t < sNb S + 1; omega, this.2⟩
  · have := a7 t ht g hg
    show g < sNb S + 1
    omega
  · have := a8 t ht b hb
    show b < sNb S + 1
    omega
theorem link_lk (S : St) {a b : Nat} (v : Bool) (hab : a ≠ b) (x y : Nat) : sLk (sLink S a b v) x y = if (x = a ∧ y = b) ∨ (x = b ∧ y = a) then v else sLk S x y := by
  show va_up (va_up (sLk S) a (va_up (sLk S a) b v)) b (va_up (sLk S b) a v) x y = _
  by_cases e1 : x = b
  · subst e1
    rw [up_s]
    by_cases e2 : y = a
    · subst e2; rw [up_s, if_pos (by omega)]
    · rw [up_n _ _ e2, if_neg (by omega)]
  · rw [up_n _ _ e1]
    by_cases e2 : x = a
    · subst e2
      rw [up_s]
      by_cases e3 : y = b
      · subst e3; rw [up_s, if_pos (by omega)]
      · rw [up_n _ _ e3, if_neg (by omega)]
    · rw [up_n _ _ e2, if_neg (by omega)]
theorem wf_link {S : St} (h : WF S) {a b : Nat} (ha : a < sNb S) (hb : b < sNb S) (hab : a ≠ b) (v : Bool) : WF (sLink S a b v) := by
  obtain ⟨⟨a1, a2⟩, a3, a4, a5, a6⟩ := h
  refine ⟨⟨a1, a2⟩, a3, a4, fun x y hl => ?_, a6⟩
  rw [link_lk S v hab] at hl ⊢
  by_cases e : (x = a ∧ y = b) ∨ (x = b ∧ y = a)
  · rw [if_pos e] at hl
    rw [if_pos (by omega)]
    exact ⟨by show x < sNb S; omega, by show y < sNb S; omega, by omega, hl⟩
  · rw [if_neg e] at hl
    rw [if_neg (by omega)]
    exact a5 x y hl
theorem wf_cat {S : St} (h : WF S) {b : Nat} (hb : b < sNb S) (v : Bool) : WF (sCat S b v) := by
  obtain ⟨a1, a3, a4, a5⟩ := h
  refine ⟨a1, a3, fun x hx => ?_, a5⟩
  have hx : sNb S ≤ x := hx
  show sCu S x = false ∧ va_up (sCa S) b v x = false
  rw [up_n _ _ (by omega)]
  exact a4 x hx
theorem wf_train {S : St} (h : WF S) {b k : Nat} (hb : b < sNb S) (h1 : 1 ≤ k) (h2 : k ≤ 9) (ht : sNt S < 6) (hf : tAt S b = none) : WF (sTrain S b k) := by
  obtain ⟨⟨a1, a2⟩, a3, a4, a5, a6, a7, a8, a9, a10, a11⟩ := h
  have hn := tAt_none hf
  refine ⟨⟨a1, by show sNt S + 1 ≤ 6; omega⟩, a3, a4, a5, fun t ht => ?_, fun t ht g hg => ?_, fun t ht c hc => ?_, fun t u ht hu he => ?_, fun t u c ht hu hc he => ?_, fun t ht => a11 t (by have ht : sNt S + 1 ≤ t := ht; omega)⟩
  · have ht : t < sNt S + 1 := ht
    show va_up (sPl S) (sNt S) b t < sNb S ∧ 1 ≤ va_up (sPr S) (sNt S) k t ∧ va_up (sPr S) (sNt S) k t ≤ 9 ∧ va_up (sRe S) (sNt S) 0 t ≤ 9
    by_cases e : t = sNt S
    · subst e; rw [up_s, up_s, up_s]; omega
    · rw [up_n _ _ e, up_n _ _ e, up_n _ _ e]; exact a6 t (by omega)
  · have ht : t < sNt S + 1 := ht
    have hg : va_up (sGo S) (sNt S) none t = some g := hg
    by_cases e : t = sNt S
    · subst e; rw [up_s] at hg; cases hg
    · rw [up_n _ _ e] at hg; exact a7 t (by omega) g hg
  · have ht : t < sNt S + 1 := ht
    have hc : va_up (sHo S) (sNt S) none t = some c := hc
    by_cases e : t = sNt S
    · subst e; rw [up_s] at hc; cases hc
    · rw [up_n _ _ e] at hc; exact a8 t (by omega) c hc
  · have ht : t < sNt S + 1 := ht
    have hu : u < sNt S + 1 := hu
    have he : va_up (sPl S) (sNt S) b t = va_up (sPl S) (sNt S) b u := he
    by_cases e1 : t = sNt S
    · by_cases e2 : u = sNt S
      · omega
      · rw [e1, up_s, up_n _ _ e2] at he
        exact absurd he.symm (hn u (by omega))
    · by_cases e2 : u = sNt S
      · rw [e2, up_s, up_n _ _ e1] at he
        exact absurd he (hn t (by omega))
      · rw [up_n _ _ e1, up_n _ _ e2] at he
        exact a9 t u (by omega) (by omega) he
  · have ht : t < sNt S + 1 := ht
    have hu : u < sNt S + 1 := hu
    have hc : va_up (sHo S) (sNt S) none t = some c := hc
    have he : va_up (sHo S) (sNt S) none u = some c := he
    by_cases e1 : t = sNt S
    · rw [e1, up_s] at hc; cases hc
    · by_cases e2 : u = sNt S
      · rw [e2, up_s] at he; cases he
      · rw [up_n _ _ e1] at hc
        rw [up_n _ _ e2] at he
        exact a10 t u c (by omega) (by omega) hc he
theorem wf_goal {S : St} (h : WF S) {t : Nat} {g : Option Nat} (hg : ∀ x, g = some x → x < sNb S) : WF (sGoal S t g) := by
  obtain ⟨a1, a3, a4, a5, a6, a7, a8⟩ := h
  refine ⟨a1, a3, a4, a5, a6, fun u hu x hx => ?_, a8⟩
  have hx : va_up (sGo S) t g u = some x := hx
  by_cases e : u = t
  · subst e; rw [up_s] at hx; exact hg x hx
  · rw [up_n _ _ e] at hx; exact a7 u hu x hx
theorem wf_hold {S : St} (h : WF S) {t : Nat} {g : Option Nat} (hg : ∀ x, g = some x → x < sNb S ∧ ∀ u, u < sNt S → u ≠ t → sHo S u ≠ some x) : WF (sHold S t g) := by
  obtain ⟨a1, a3, a4, a5, a6, a7, a8, a9, a10, a11⟩ := h
  refine ⟨a1, a3, a4, a5, a6, a7, fun u hu x hx => ?_, a9, fun u v x hu hv h1 h2 => ?_, a11⟩
  · have hx : va_up (sHo S) t g u = some x := hx
    by_cases e : u = t
    · subst e; rw [up_s] at hx; exact (hg x hx).1
    · rw [up_n _ _ e] at hx; exact a8 u hu x hx
  · have h1 : va_up (sHo S) t g u = some x := h1
    have h2 : va_up (sHo S) t g v = some x := h2
    by_cases e1 : u = t
    · by_cases e2 : v = t
      · omega
      · subst e1
        rw [up_s] at h1
        rw [up_n _ _ e2] at h2
        exact absurd h2 ((hg x h1).2 v hv e2)
    · by_cases e2 : v = t
      · subst e2
        rw [up_s] at h2
        rw [up_n _ _ e1] at h1
        exact absurd h1 ((hg x h2).2 u hu e1)
      · rw [up_n _ _ e1] at h1
        rw [up_n _ _ e2] at h2
        exact a10 u v x hu hv h1 h2
theorem wf_off {S : St} (h : WF S) {t : Nat} (ht : t < sNt S) (v : Bool) : WF (sOff S t v) := by
  obtain ⟨a1, a3, a4, a5, a6, a7, a8, a9, a10, a11⟩ := h
  refine ⟨a1, a3, a4, a5, a6, a7, a8, a9, a10, fun u hu => ?_⟩
  have hu : sNt S ≤ u := hu
  show va_up (sOf S) t v u = false
  rw [up_n _ _ (by omega)]
  exact a11 u hu
theorem wf_less {S : St} (h : WF S) (t : Nat) : WF (sLess S t) := by
  obtain ⟨a1, a3, a4, a5, a6, a7⟩ := h
  refine ⟨a1, a3, a4, a5, fun u hu => ?_, a7⟩
  have := a6 u hu
  refine ⟨this.1, this.2.1, this.2.2.1, ?_⟩
  show va_up (sRe S) t (sRe S t - 1) u ≤ 9
  by_cases e : u = t
  · subst e; rw [up_s]; omega
  · rw [up_n _ _ e]; exact this.2.2.2
theorem wf_wait {S : St} (h : WF S) (t : Nat) : WF (sWait S t) := h
theorem wf_move {S : St} (h : WF S) {t b : Nat} (ht : t < sNt S) (hb : b < sNb S) (hf : tAt S b = none) : WF (sMove S t b) := by
  obtain ⟨⟨a1, a2⟩, a3, a4, a5, a6, a7, a8, a9, a10, a11⟩ := h
  have hn := tAt_none hf
  refine ⟨⟨a1, a2⟩, a3, fun x hx => ?_, a5, fun u hu => ?_, fun u hu g hg => ?_, fun u hu c hc => ?_, fun u v hu hv he => ?_, fun u v c hu hv h1 h2 => ?_, fun u hu => ?_⟩
  · have hx : sNb S ≤ x := hx
    show sCu S x = false ∧ va_up (sCa S) b false x = false
    rw [up_n _ _ (by omega)]
    exact a4 x hx
  · have := a6 u hu
    show va_up (sPl S) t b u < sNb S ∧ 1 ≤ sPr S u ∧ sPr S u ≤ 9 ∧ va_up (sRe S) t (sLen S b) u ≤ 9
    by_cases e : u = t
    · subst e; rw [up_s, up_s]; have := a3 b hb; omega
    · rw [up_n _ _ e, up_n _ _ e]; exact this
  · have hg : (if sGo S t = some b then va_up (sGo S) t none else sGo S) u = some g := hg
    split at hg
    · by_cases e : u = t
      · subst e; rw [up_s] at hg; cases hg
      · rw [up_n _ _ e] at hg; exact a7 u hu g hg
    · exact a7 u hu g hg
  · have hc : va_up (sHo S) t none u = some c := hc
    by_cases e : u = t
    · subst e; rw [up_s] at hc; cases hc
    · rw [up_n _ _ e] at hc; exact a8 u hu c hc
  · have he : va_up (sPl S) t b u = va_up (sPl S) t b v := he
    by_cases e1 : u = t
    · by_cases e2 : v = t
      · omega
      · rw [e1, up_s, up_n _ _ e2] at he; exact absurd he.symm (hn v hv)
    · by_cases e2 : v = t
      · rw [e2, up_s, up_n _ _ e1] at he; exact absurd he (hn u hu)
      · rw [up_n _ _ e1, up_n _ _ e2] at he; exact a9 u v hu hv he
  · have h1 : va_up (sHo S) t none u = some c := h1
    have h2 : va_up (sHo S) t none v = some c := h2
    by_cases e1 : u = t
    · rw [e1, up_s] at h1; cases h1
    · by_cases e2 : v = t
      · rw [e2, up_s] at h2; cases h2
      · rw [up_n _ _ e1] at h1
        rw [up_n _ _ e2] at h2
        exact a10 u v c hu hv h1 h2
  · have hu : sNt S ≤ u := hu
    show (if sCa S b = true then va_up (sOf S) t true else sOf S) u = false
    split
    · rw [up_n _ _ (by omega)]; exact a11 u hu
    · exact a11 u hu
theorem nx_lt {S : St} {t b : Nat} (h : nx S t = some b) : b < sNb S ∧ sLk S (sPl S t) b = true := by
  unfold nx at h
  split at h
  · cases h
  · split at h
    · cases h
    · split at h
      · cases h
      · obtain ⟨h1, h2, -⟩ := fnd_is h
        refine ⟨h1, ?_⟩
        simp only [Bool.and_eq_true] at h2
        exact h2.1
theorem act_nn (S : St) (t : Nat) : sNb (act S t) = sNb S ∧ sNt (act S t) = sNt S ∧ sPr (act S t) = sPr S ∧ sTk (act S t) = sTk S := by
  unfold act
  split
  · exact ⟨rfl, rfl, rfl, rfl⟩
  · split
    · exact ⟨rfl, rfl, rfl, rfl⟩
    · split
      · exact ⟨rfl, rfl, rfl, rfl⟩
      · split <;> exact ⟨rfl, rfl, rfl, rfl⟩
theorem wf_act {S : St} (h : WF S) {t : Nat} (ht : t < sNt S) : WF (act S t) := by
  unfold act
  split
  · exact h
  · split
    · exact wf_less h t
    · split
      · exact h
      · rename_i b hb
        split
        · rename_i hc
          exact wf_move h ht (nx_lt hb).1 hc.1
        · exact wf_wait h t
theorem acts_nn (S : St) (r : Nat) : sNb (acts S r) = sNb S ∧ sNt (acts S r) = sNt S ∧ sPr (acts S r) = sPr S ∧ sTk (acts S r) = sTk S := by
  induction r with
  | zero => exact ⟨rfl, rfl, rfl, rfl⟩
  | succ r ih =>
    unfold acts
    split
    · exact ih
    · obtain ⟨h1, h2, h3, h4⟩ := act_nn (acts S r) (by assumption)
      exact ⟨h1.trans ih.1, h2.trans ih.2.1, h3.trans ih.2.2.1, h4.trans ih.2.2.2⟩
theorem wf_acts {S : St} (h : WF S) (r : Nat) : WF (acts S r) := by
  induction r with
  | zero => exact h
  | succ r ih =>
    unfold acts
    split
    · exact ih
    · rename_i t ht
      exact wf_act ih (fnd_is ht).1
theorem wf_tick {S : St} (h : WF S) : WF (tick S) := wf_acts h _
theorem wf_ticks {S : St} (h : WF S) (k : Nat) : WF (ticksN k S) := by
  induction k with
  | zero => exact h
  | succ k ih => exact wf_tick ih
end JOPS

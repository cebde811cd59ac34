/-! NEXT BLOCKS AND PARTS, as the walks count them -/
section JPARTS
theorem wf_sym {S : St} (h : WF S) : ∀ a b, sLk S a b = true → sLk S b a = true := fun a b e => (h.2.2.2.1 a b e).2.2.2
theorem dS_le {S : St} (h : WF S) {s x c : Nat} (hx : x < sNb S) (hd : dS S s x = some c) : c ≤ 117 := dst_117 h.nb (fun a b e => ⟨(h.2.2.2.1 a b e).1, (h.2.2.2.1 a b e).2.1⟩) h.2.1 hx hd
theorem dF_le {S : St} (h : WF S) {s x : Nat} (hx : x < sNb S) : dF 1000 (dS S s x) ≤ 1000 := by
  cases e : dS S s x with
  | none => exact Nat.le_refl _
  | some c => have := dS_le h hx e; show c ≤ 1000; omega
theorem am_step1 {q : Nat → Option Nat} {k : Nat} {o : Option Nat} (hq : q k = o) (hlt : dF 1000 o < amV 1000 (am k q)) (hV : amV 1000 (am k q) ≤ 1000) : am (k + 1) q = some (k, dF 1000 o) := by
  cases o with
  | none => have : ¬ dF 1000 none < amV 1000 (am k q) := by show ¬ 1000 < _; omega
            exact absurd hlt this
  | some c => exact am_s2 hq hlt
theorem am_step2 {q : Nat → Option Nat} {k : Nat} {o : Option Nat} (hq : q k = o) (ho : ∀ c, o = some c → c < 1000) (hge : ¬ dF 1000 o < amV 1000 (am k q)) : am (k + 1) q = am k q := by
  cases o with
  | none => exact am_s0 hq
  | some c => exact am_s1 hq (ho c rfl) hge
/-- the linked blocks, with how far they are from the goal -/
noncomputable def nxq (S : St) (p g b : Nat) : Option Nat := if sLk S p b = true then dS S g b else none
theorem nx_am {S : St} (h : WF S) {t g : Nat} (hg : sGo S t = some g) (hne : ¬ g = sPl S t) : nx S t = amI (am (sNb S) (nxq S (sPl S t) g)) := by
  have hb : ∀ {a b : Nat}, sLk S a b = true → a < sNb S ∧ b < sNb S := fun e => ⟨(h.2.2.2.1 _ _ e).1, (h.2.2.2.1 _ _ e).2.1⟩
  unfold nx
  rw [hg]
  simp only [if_neg hne]
  cases hd : dS S (sPl S t) g with
  | none =>
    have : am (sNb S) (nxq S (sPl S t) g) = none := by
      cases e : am (sNb S) (nxq S (sPl S t) g) with
      | none => rfl
      | some p =>
        obtain ⟨i, m⟩ := p
        obtain ⟨h1, h2, -⟩ := am_some _ i m e
        unfold nxq at h2
        split at h2
        · rename_i hl
          obtain ⟨c', h3, -⟩ := dst_rev (wf_sym h) h2
          obtain ⟨c2, h4, -⟩ := dst_consle h3 hl
          rw [show dst (sLen S) (sLk S) (sPl S t) g = none from hd] at h4
          cases h4
        · cases h2
    rw [this]
    rfl
  | some c =>
    obtain ⟨b0, c0, f1, f2, f3⟩ := dst_first (show dst (sLen S) (sLk S) (sPl S t) g = some c from hd) (fun e => hne e.symm)
    simp only
    cases hf : fnd (sNb S) (fun b => sLk S (sPl S t) b && (match dS S b g with | none => false | some c' => c' + sLen S b == c)) with
    | none =>
      have := fnd_no hf b0 (hb f1).2
      have f2' : dS S b0 g = some c0 := f2
      rw [f1, f2'] at this
      simp [f3] at this
    | some i =>
      obtain ⟨h1, h2, h3⟩ := fnd_is hf
      rw [Bool.and_eq_true] at h2
      obtain ⟨h2, h4⟩ := h2
      cases hdi : dS S i g with
      | none => rw [hdi] at h4; cases h4
      | some ci =>
        rw [hdi] at h4
        have h4 : ci + sLen S i = c := by simpa using h4
        obtain ⟨m, g1, g2⟩ := dst_rev (wf_sym h) hdi
        have key : ∀ j e, nxq S (sPl S t) g j = some e → ∃ e', dS S j g = some e' ∧ c ≤ e' + sLen S j ∧ e' + sLen S j = e + sLen S g ∧ sLk S (sPl S t) j = true := by
          intro j e he
          unfold nxq at he
          split at he
          · rename_i hl
            obtain ⟨e', k1, k2⟩ := dst_rev (wf_sym h) he
            obtain ⟨e2, k3, k4⟩ := dst_consle k1 hl
            rw [show dst (sLen S) (sLk S) (sPl S t) g = some c from hd] at k3
            cases k3
            exact ⟨e', k1, k4, by omega, hl⟩
          · cases he
        rw [am_eq (i := i) (m := m) h1 (by unfold nxq; rw [if_pos h2]; exact g1) (fun j hj e he => ?_) (fun j hj e he => ?_)]
        · rfl
        · obtain ⟨e', k1, k2, k3, -⟩ := key j e he
          omega
        · obtain ⟨e', k1, k2, k3, k4⟩ := key j e he
          have := h3 j hj
          rw [k4, k1] at this
          have : ¬ e' + sLen S j = c := by simpa using this
          omega
noncomputable def cuq (S : St) (x b : Nat) : Option Nat := if sCu S b = true then dS S x b else none
theorem cuq_le {S : St} (h : WF S) {s k : Nat} (hk : k ≤ sNb S) : amV 1000 (am k (cuq S s)) ≤ 1000 := amV_le k fun j c hj hc => by
  unfold cuq at hc
  split at hc
  · have := dS_le h (show j < sNb S by omega) hc
    omega
  · cases hc
theorem nxq_le {S : St} (h : WF S) {p g k : Nat} (hk : k ≤ sNb S) : amV 1000 (am k (nxq S p g)) ≤ 1000 := amV_le k fun j c hj hc => by
  unfold nxq at hc
  split at hc
  · have := dS_le h (show j < sNb S by omega) hc
    omega
  · cases hc
/-- the nearest cushion -/
noncomputable def nrC (S : St) (x : Nat) : Option Nat := amI (am (sNb S) (cuq S x))
/-- the number of the parts: of the blocks that no lower one can reach -/
noncomputable def prB (S : St) (b : Nat) : Bool := !(fnd b (fun a => (dS S a b).isSome)).isSome
noncomputable def pcN (S : St) : Nat := cnt (sNb S) (prB S)
theorem isS_dst {len : Nat → Nat} {lk : Nat → Nat → Bool} {a b : Nat} : (dst len lk a b).isSome = true ↔ ∃ c, Rch len lk a b c := by
  cases e : dst len lk a b with
  | none => exact ⟨fun h => (by cases h), fun ⟨c, hc⟩ => absurd hc (dst_none e c)⟩
  | some c => exact ⟨fun _ => ⟨c, (dst_some e).1⟩, fun _ => rfl⟩
theorem prB_t {S : St} {b : Nat} : prB S b = true ↔ ∀ a, a < b → ∀ c, ¬ Rch (sLen S) (sLk S) a b c := by
  unfold prB
  cases e : fnd b (fun a => (dS S a b).isSome) with
  | none =>
    refine ⟨fun _ a ha c hc => ?_, fun _ => rfl⟩
    have := fnd_no e a ha
    rw [show (dS S a b).isSome = true from isS_dst.mpr ⟨c, hc⟩] at this
    cases this
  | some a =>
    refine ⟨fun h => (by cases h), fun h => ?_⟩
    obtain ⟨h1, h2, -⟩ := fnd_is e
    obtain ⟨c, hc⟩ := isS_dst.mp h2
    exact absurd hc (h a h1 c)
theorem Rch.trans {len : Nat → Nat} {lk : Nat → Nat → Bool} {a b g c c' : Nat} (h : Rch len lk a b c) (h2 : Rch len lk b g c') : ∃ c2, Rch len lk a g c2 := by
  obtain ⟨k, hk⟩ := h
  induction k generalizing a c with
  | zero => obtain ⟨rfl, rfl⟩ := hk; exact ⟨c', h2⟩
  | succ k ih =>
    obtain ⟨x, c1, l, r, -⟩ := hk
    obtain ⟨c2, r2⟩ := ih r
    exact ⟨_, Rch.cons l r2⟩
theorem Rch.one {len : Nat → Nat} {lk : Nat → Nat → Bool} {a b : Nat} (h : lk a b = true) : Rch len lk a b (0 + len b) := Rch.cons h ⟨0, rfl, rfl⟩
theorem Rch.self {len : Nat → Nat} {lk : Nat → Nat → Bool} (a : Nat) : Rch len lk a a 0 := ⟨0, rfl, rfl⟩
theorem Rch.back {S : St} (h : WF S) {a b c : Nat} (r : Rch (sLen S) (sLk S) a b c) : ∃ c', Rch (sLen S) (sLk S) b a c' := by
  obtain ⟨k, hk⟩ := r
  obtain ⟨c', h1, -⟩ := hk.rev (wf_sym h)
  exact ⟨c', k, h1⟩
/-- a set that links don't leave holds all that its members reach -/
theorem Rch.stay {len : Nat → Nat} {lk : Nat → Nat → Bool} {R : Nat → Bool} (h : ∀ x, R x = true → ∀ y, lk x y = true → R y = true) {a b c : Nat} (r : Rch len lk a b c) (ha : R a = true) : R b = true := by
  obtain ⟨k, hk⟩ := r
  induction k generalizing a c with
  | zero => obtain ⟨rfl, rfl⟩ := hk; exact ha
  | succ k ih =>
    obtain ⟨x, c1, l, r, -⟩ := hk
    exact ih (h a ha x l) r
/-- what a walk from b adds to the seen ones -/
def WS (S : St) (b : Nat) (seen R : Nat → Bool) : Prop :=
  (∀ x, seen x = true → R x = true) ∧ R b = true ∧ (∀ x, R x = true → seen x = true ∨ ∃ c, Rch (sLen S) (sLk S) b x c) ∧ ∀ x, R x = true → seen x = false → ∀ y, sLk S x y = true → R y = true
/-- .. on its way: the links below j are done -/
def WL (S : St) (b j : Nat) (seen R : Nat → Bool) : Prop :=
  (∀ x, seen x = true → R x = true) ∧ R b = true ∧ (∀ x, R x = true → seen x = true ∨ ∃ c, Rch (sLen S) (sLk S) b x c) ∧ (∀ x, R x = true → seen x = false → x ≠ b → ∀ y, sLk S x y = true → R y = true) ∧ ∀ z, z < j → sLk S b z = true → R z = true
theorem wl_0 {S : St} {b : Nat} {seen : Nat → Bool} : WL S b 0 seen (va_up seen b true) := by
  refine ⟨fun x hx => ?_, up_s _ _ _, fun x hx => ?_, fun x hx hs hne => ?_, fun z hz => by omega⟩
  · by_cases e : x = b
    · subst e; exact up_s _ _ _
    · rw [up_n _ _ e]; exact hx
  · by_cases e : x = b
    · subst e; exact Or.inr ⟨0, Rch.self _⟩
    · rw [up_n _ _ e] at hx; exact Or.inl hx
  · rw [up_n _ _ hne, hs] at hx; cases hx
theorem wl_skip {S : St} {b j : Nat} {seen R : Nat → Bool} (h : WL S b j seen R) (hj : sLk S b j = false ∨ R j = true) : WL S b (j + 1) seen R := by
  obtain ⟨h1, h2, h3, h4, h5⟩ := h
  refine ⟨h1, h2, h3, h4, fun z hz hl => ?_⟩
  by_cases e : z = j
  · subst e
    rcases hj with q | q
    · rw [q] at hl; cases hl
    · exact q
  · exact h5 z (by omega) hl
theorem wl_step {S : St} {b j : Nat} {seen R R' : Nat → Bool} (h : WL S b j seen R) (hl : sLk S b j = true) (g : WS S j R R') : WL S b (j + 1) seen R' := by
  obtain ⟨h1, h2, h3, h4, h5⟩ := h
  obtain ⟨g1, g2, g3, g4⟩ := g
  refine ⟨fun x hx => g1 x (h1 x hx), g1 b h2, fun x hx => ?_, fun x hx hs hne y hy => ?_, fun z hz hz2 => ?_⟩
  · rcases g3 x hx with q | ⟨c, q⟩
    · exact h3 x q
    · exact Or.inr ⟨_, Rch.cons hl q⟩
  · cases e : R x with
    | true => exact g1 y (h4 x e hs hne y hy)
    | false => exact g4 x hx e y hy
  · by_cases e : z = j
    · subst e; exact g2
    · exact g1 z (h5 z (by omega) hz2)
theorem wl_end {S : St} {b : Nat} {seen R : Nat → Bool} (hw : WF S) (h : WL S b (sNb S) seen R) : WS S b seen R := by
  obtain ⟨h1, h2, h3, h4, h5⟩ := h
  refine ⟨h1, h2, h3, fun x hx hs y hy => ?_⟩
  by_cases e : x = b
  · subst e; exact h5 y (hw.2.2.2.1 _ _ hy).2.1 hy
  · exact h4 x hx hs e y hy
/-- the walks from the blocks below k -/
def WT (S : St) (k : Nat) (R : Nat → Bool) : Prop := (∀ x, R x = true → ∀ y, sLk S x y = true → R y = true) ∧ (∀ a, a < k → R a = true) ∧ ∀ x, R x = true → ∃ a, a < k ∧ ∃ c, Rch (sLen S) (sLk S) a x c
theorem wt_0 {S : St} : WT S 0 (fun _ => false) := ⟨fun x h => (by cases h), fun a h => by omega, fun x h => by cases h⟩
theorem wt_pr {S : St} {k : Nat} {R : Nat → Bool} (h : WT S k R) : prB S k = !(R k) := by
  cases e : R k with
  | true =>
    obtain ⟨a, h1, c, h2⟩ := h.2.2 k e
    cases q : prB S k with
    | false => rfl
    | true => exact absurd h2 (prB_t.mp q a h1 c)
  | false =>
    refine prB_t.mpr fun a ha c hc => ?_
    have := Rch.stay h.1 hc (h.2.1 a ha)
    rw [e] at this
    cases this
theorem wt_skip {S : St} {k : Nat} {R : Nat → Bool} (h : WT S k R) (e : R k = true) : WT S (k + 1) R :=
  ⟨h.1, fun a ha => by
    by_cases q : a = k
    · subst q; exact e
    · exact h.2.1 a (by omega), fun x hx => by obtain ⟨a, h1, h2⟩ := h.2.2 x hx; exact ⟨a, by omega, h2⟩⟩
theorem wt_step {S : St} {k : Nat} {R R' : Nat → Bool} (h : WT S k R) (g : WS S k R R') : WT S (k + 1) R' := by
  obtain ⟨g1, g2, g3, g4⟩ := g
  refine ⟨fun x hx y hy => ?_, fun a ha => ?_, fun x hx => ?_⟩
  · cases e : R x with
    | true => exact g1 y (h.1 x e y hy)
    | false => exact g4 x hx e y hy
  · by_cases q : a = k
    · subst q; exact g2
    · exact g1 a (h.2.1 a (by omega))
  · rcases g3 x hx with q | q
    · obtain ⟨a, h1, h2⟩ := h.2.2 x q; exact ⟨a, by omega, h2⟩
    · exact ⟨k, by omega, q⟩
/-! unions -/
def fsG (g : Nat → Nat) (b : Nat) : Bool := !(fnd b (fun a => g a == g b)).isSome
theorem fsG_t {g : Nat → Nat} {b : Nat} : fsG g b = true ↔ ∀ a, a < b → g a ≠ g b := by
  unfold fsG
  cases e : fnd b (fun a => g a == g b) with
  | none =>
    refine ⟨fun _ a ha q => ?_, fun _ => rfl⟩
    have := fnd_no e a ha
    simp [q] at this
  | some a =>
    refine ⟨fun h => (by cases h), fun h => ?_⟩
    obtain ⟨h1, h2, -⟩ := fnd_is e
    exact absurd (by simpa using h2) (h a h1)
theorem fsG_eq {g g' : Nat → Nat} {b : Nat} (h : (∀ a, a < b → g a ≠ g b) ↔ ∀ a, a < b → g' a ≠ g' b) : fsG g b = fsG g' b := by
  rw [Bool.eq_iff_iff, fsG_t, fsG_t]
  exact h
def mrg (g : Nat → Nat) (p q j : Nat) : Nat := if g j = p then q else g j
theorem fsG_mrg {n x y : Nat} {g : Nat → Nat} (hx : x < n) (hy : y < n) (hne : g x ≠ g y) : cnt n (fsG g) = cnt n (fsG (mrg g (g x) (g y))) + 1 := by
  obtain ⟨ip, p1, p2⟩ := pk_least (fun i => g i = g x) ⟨x, rfl⟩
  obtain ⟨iq, q1, q2⟩ := pk_least (fun i => g i = g y) ⟨y, rfl⟩
  have hpx : ip < n := by
    rcases Nat.lt_or_ge ip n with h | h
    · exact h
    · exact absurd rfl (p2 x (by omega))
  have hqy : iq < n := by
    rcases Nat.lt_or_ge iq n with h | h
    · exact h
    · exact absurd rfl (q2 y (by omega))
  have hpq : ip ≠ iq := fun e => hne (by rw [← p1, ← q1, e])
  have oth : ∀ j, g j ≠ g x → g j ≠ g y → fsG (mrg g (g x) (g y)) j = fsG g j := by
    intro j h1 h2
    refine fsG_eq ⟨fun h a ha e => h a ha ?_, fun h a ha e => h a ha ?_⟩
    · unfold mrg
      rw [if_neg h1, if_neg (by rw [e]; exact h1)]
      exact e
    · unfold mrg at e
      rw [if_neg h1] at e
      split at e
      · exact absurd e.symm h2
      · exact e
  have inP : ∀ j, g j = g x → fsG g j = decide (j = ip) := by
    intro j h
    by_cases e : j = ip
    · rw [decide_eq_true e]
      exact fsG_t.mpr fun a ha q => p2 a (by omega) (q.trans h)
    · rw [decide_eq_false e]
      cases q : fsG g j with
      | false => rfl
      | true =>
        have hl : ip < j := by
          rcases Nat.lt_or_ge j ip with z | z
          · exact absurd h (p2 j z)
          · omega
        exact absurd (p1.trans h.symm) (fsG_t.mp q ip hl)
  have inQ : ∀ j, g j = g y → fsG g j = decide (j = iq) := by
    intro j h
    by_cases e : j = iq
    · rw [decide_eq_true e]
      exact fsG_t.mpr fun a ha q => q2 a (by omega) (q.trans h)
    · rw [decide_eq_false e]
      cases q : fsG g j with
      | false => rfl
      | true =>
        have hl : iq < j := by
          rcases Nat.lt_or_ge j iq with z | z
          · exact absurd h (q2 j z)
          · omega
        exact absurd (q1.trans h.symm) (fsG_t.mp q iq hl)
  have mP : ∀ j, g j = g x → mrg g (g x) (g y) j = g y := fun j h => by unfold mrg; rw [if_pos h]
  have mQ : ∀ j, g j = g y → mrg g (g x) (g y) j = g y := fun j h => by
    unfold mrg
    split
    · rfl
    · exact h
  have inM : ∀ j, (g j = g x ∨ g j = g y) → fsG (mrg g (g x) (g y)) j = decide (j = ip ∧ j < iq ∨ j = iq ∧ j < ip) := by
    intro j h
    have hj : mrg g (g x) (g y) j = g y := h.elim (mP j) (mQ j)
    have hge : ip ≤ j ∨ iq ≤ j := by
      rcases h with h | h
      · left
        rcases Nat.lt_or_ge j ip with z | z
        · exact absurd h (p2 j z)
        · exact z
      · right
        rcases Nat.lt_or_ge j iq with z | z
        · exact absurd h (q2 j z)
        · exact z
    by_cases e : j = ip ∧ j < iq ∨ j = iq ∧ j < ip
    · rw [decide_eq_true e]
      refine fsG_t.mpr fun a ha q => ?_
      rw [hj] at q
      unfold mrg at q
      split at q
      · rename_i z
        exact p2 a (by omega) z
      · exact q2 a (by omega) q
    · rw [decide_eq_false e]
      cases q : fsG (mrg g (g x) (g y)) j with
      | false => rfl
      | true =>
        have q := fsG_t.mp q
        rcases Nat.lt_or_ge ip j with z | z
        · exact absurd ((mP ip p1).trans hj.symm) (q ip z)
        · rcases Nat.lt_or_ge iq j with z2 | z2
          · exact absurd ((mQ iq q1).trans hj.symm) (q iq z2)
          · exact absurd (by omega) e
  rcases Nat.lt_or_gt_of_ne hpq with hlt | hlt
  · refine cnt_one (i := iq) hqy ?_ ?_ fun j _ hne2 => ?_
    · rw [inM iq (Or.inr q1)]; exact decide_eq_false (by omega)
    · rw [inQ iq q1]; exact decide_eq_true rfl
    · by_cases e1 : g j = g x
      · have hjq : j ≠ iq := fun z => hne (by rw [← e1, z, q1])
        rw [inM j (Or.inl e1), inP j e1]
        exact decide_eq_decide.mpr (by omega)
      · by_cases e2 : g j = g y
        · have hjp : j ≠ ip := fun z => e1 (by rw [z, p1])
          rw [inM j (Or.inr e2), inQ j e2]
          exact decide_eq_decide.mpr (by omega)
        · exact oth j e1 e2
  · refine cnt_one (i := ip) hpx ?_ ?_ fun j _ hne2 => ?_
    · rw [inM ip (Or.inl p1)]; exact decide_eq_false (by omega)
    · rw [inP ip p1]; exact decide_eq_true rfl
    · by_cases e1 : g j = g x
      · have hjq : j ≠ iq := fun z => hne (by rw [← e1, z, q1])
        rw [inM j (Or.inl e1), inP j e1]
        exact decide_eq_decide.mpr (by omega)
      · by_cases e2 : g j = g y
        · have hjp : j ≠ ip := fun z => e1 (by rw [z, p1])
          rw [inM j (Or.inr e2), inQ j e2]
          exact decide_eq_decide.mpr (by omega)
        · exact oth j e1 e2
/-- the groups, when the links of the blocks below i are done, and of i those to the blocks below j -/
def UI (S : St) (i j : Nat) (g : Nat → Nat) : Prop :=
  (∀ a, a < sNb S → g a < sNb S) ∧ (∀ a b, a < sNb S → b < sNb S → g a = g b → ∃ c, Rch (sLen S) (sLk S) a b c) ∧ ∀ x y, y < x → (x < i ∨ x = i ∧ y < j) → sLk S x y = true → g x = g y
theorem ui_0 {S : St} : UI S 0 0 (fun a => a) := ⟨fun a h => h, fun a b _ _ e => by subst e; exact ⟨0, Rch.self _⟩, fun x y _ h => by omega⟩
theorem ui_skip {S : St} {i j : Nat} {g : Nat → Nat} (h : UI S i j g) (e : sLk S i j = false ∨ g i = g j) : UI S i (j + 1) g :=
  ⟨h.1, h.2.1, fun x y hy hx hl => by
    by_cases q : x = i ∧ y = j
    · obtain ⟨rfl, rfl⟩ := q
      rcases e with e | e
      · rw [e] at hl; cases hl
      · exact e
    · exact h.2.2 x y hy (by omega) hl⟩
theorem ui_next {S : St} {i : Nat} {g : Nat → Nat} (h : UI S i i g) : UI S (i + 1) 0 g := ⟨h.1, h.2.1, fun x y hy hx hl => h.2.2 x y hy (by omega) hl⟩
theorem ui_step {S : St} {i j : Nat} {g : Nat → Nat} (hw : WF S) (h : UI S i j g) (hi : i < sNb S) (hj : j < sNb S) (hl : sLk S i j = true) : UI S i (j + 1) (mrg g (g i) (g j)) := by
  obtain ⟨h1, h2, h3⟩ := h
  refine ⟨fun a ha => ?_, fun a b ha hb e => ?_, fun x y hy hx hlx => ?_⟩
  · unfold mrg; split
    · exact h1 j hj
    · exact h1 a ha
  · have hji : ∃ c, Rch (sLen S) (sLk S) j i c := Rch.back hw (Rch.one hl)
    unfold mrg at e
    by_cases ea : g a = g i
    · by_cases eb : g b = g i
      · exact h2 a b ha hb (ea.trans eb.symm)
      · rw [if_pos ea, if_neg eb] at e
        obtain ⟨c1, r1⟩ := h2 a i ha hi ea
        obtain ⟨c2, r2⟩ := h2 j b hj hb e
        obtain ⟨c3, r3⟩ := Rch.trans r1 (Rch.one hl)
        exact Rch.trans r3 r2
    · by_cases eb : g b = g i
      · rw [if_neg ea, if_pos eb] at e
        obtain ⟨c1, r1⟩ := h2 a j ha hj e
        obtain ⟨c2, r2⟩ := hji
        obtain ⟨c3, r3⟩ := h2 i b hi hb eb.symm
        obtain ⟨c4, r4⟩ := Rch.trans r1 r2
        exact Rch.trans r4 r3
      · rw [if_neg ea, if_neg eb] at e
        exact h2 a b ha hb e
  · by_cases q : x = i ∧ y = j
    · obtain ⟨rfl, rfl⟩ := q
      unfold mrg
      rw [if_pos rfl]
      split <;> rfl
    · have := h3 x y hy (by omega) hlx
      unfold mrg
      rw [this]
theorem ui_end {S : St} {i : Nat} {g : Nat → Nat} (hw : WF S) (h : UI S i 0 g) (hi : sNb S ≤ i) : cnt (sNb S) (fsG g) = pcN S := by
  unfold pcN
  have lke : ∀ a b, sLk S a b = true → g a = g b := fun a b hl => by
    obtain ⟨k1, k2, k3, k4⟩ := hw.2.2.2.1 a b hl
    rcases Nat.lt_or_gt_of_ne k3 with q | q
    · exact (h.2.2 b a q (by omega) k4).symm
    · exact h.2.2 a b q (by omega) hl
  have rke : ∀ k a b c, Rk (sLen S) (sLk S) k a b c → g a = g b := by
    intro k
    induction k with
    | zero => intro a b c hr; obtain ⟨rfl, rfl⟩ := hr; rfl
    | succ k ih =>
      intro a b c hr
      obtain ⟨x, c1, l, r, -⟩ := hr
      exact (lke a x l).trans (ih x b c1 r)
  refine cnt_congr fun b hb => ?_
  rw [Bool.eq_iff_iff, fsG_t, prB_t]
  exact ⟨fun q a ha c ⟨k, hk⟩ => q a ha (rke k a b c hk), fun q a ha e => by
    obtain ⟨c, hc⟩ := h.2.1 a b (by omega) hb e
    exact q a ha c hc⟩
theorem fsG_id (n : Nat) : cnt n (fsG (fun a => a)) = n := by
  have := cnt_congr (n := n) (p := fsG (fun a => a)) (q := fun _ => true) fun j _ => fsG_t.mpr fun a ha => by omega
  rw [this]
  clear this
  induction n with
  | zero => rfl
  | succ n ih => show cnt n _ + 1 = n + 1; omega
end JPARTS

/-! WHAT THE LAW ASKS OF THE RAILWAY AS A VALUE -/
section JFACT
/-! routes -/
theorem Rk.app {len : Nat → Nat} {lk : Nat → Nat → Bool} {i a b x : Nat} (h : Rk len lk i a b x) : ∀ (j g y : Nat), Rk len lk j b g y → Rk len lk (i + j) a g (x + y) := by
  intro j
  induction j with
  | zero =>
    intro g y h2
    obtain ⟨rfl, rfl⟩ := h2
    exact h
  | succ j ih =>
    intro g y h2
    obtain ⟨d, y', h3, h4, rfl⟩ := Rk.unsnoc h2
    have h9 := Rk.snoc (ih d y' h3) h4
    rw [Nat.add_assoc x] at h9
    exact h9
theorem dst_tri {len : Nat → Nat} {lk : Nat → Nat → Bool} {a b c x y : Nat} (h1 : dst len lk a c = some x) (h2 : dst len lk c b = some y) : ∃ z, dst len lk a b = some z ∧ z ≤ x + y := by
  obtain ⟨i, hi⟩ := (dst_some h1).1
  obtain ⟨j, hj⟩ := (dst_some h2).1
  exact dst_le ⟨i + j, hi.app j _ _ hj⟩
theorem dS_pos {S : St} (h : WF S) {a b c : Nat} (hne : a ≠ b) (hd : dS S a b = some c) : 1 ≤ c := by
  obtain ⟨x, c', h1, -, rfl⟩ := dst_first hd hne
  have := (h.2.1 x (h.2.2.2.1 a x h1).2.1).1
  omega
theorem dS_self (S : St) (a : Nat) : dS S a a = some 0 := dst_self a
theorem dS_zero {S : St} (h : WF S) {a b : Nat} : dS S a b = some 0 ↔ a = b := by
  constructor
  · intro hd
    by_cases e : a = b
    · exact e
    · exact absurd (dS_pos h e hd) (by omega)
  · intro e
    subst e
    exact dS_self S a
theorem dS_link {S : St} {a b : Nat} (hl : sLk S a b = true) : ∃ c, dS S a b = some c ∧ c ≤ sLen S b := by
  obtain ⟨c, h1, h2⟩ := dst_snocle (dst_self (len := sLen S) (lk := sLk S) a) hl
  exact ⟨c, h1, by omega⟩
theorem dS_first {S : St} {a b c : Nat} (hne : a ≠ b) (hd : dS S a b = some c) : ∃ x c', sLk S a x = true ∧ dS S x b = some c' ∧ c = sLen S x + c' := by
  obtain ⟨x, c', h1, h2, h3⟩ := dst_first hd hne
  exact ⟨x, c', h1, h2, by omega⟩
theorem dS_rev {S : St} (h : WF S) {a b c : Nat} (hd : dS S a b = some c) : ∃ c', dS S b a = some c' ∧ c + sLen S a = c' + sLen S b := dst_rev (wf_sym h) hd
theorem prB_f {S : St} (h : WF S) {a : Nat} : prB S a = true ↔ ∀ b, b < a → dS S a b = none := by
  rw [prB_t]
  constructor
  · intro q b hb
    cases e : dS S a b with
    | none => rfl
    | some c =>
      obtain ⟨c', h1, -⟩ := dS_rev h e
      exact absurd (dst_some h1).1 (q b hb c')
  · intro q b hb c hc
    obtain ⟨c0, h1, -⟩ := dst_le hc
    obtain ⟨c', h2, -⟩ := dS_rev h (show dS S b a = some c0 from h1)
    rw [q b hb] at h2
    cases h2
/-! the nearest cushion -/
theorem nrC_some {S : St} {x k : Nat} (h : nrC S x = some k) : k < sNb S ∧ sCu S k = true ∧ ∃ m, dS S x k = some m ∧ ∀ j, j < sNb S → sCu S j = true → ∀ c, dS S x j = some c → m < c ∨ (m = c ∧ k ≤ j) := by
  unfold nrC amI at h
  cases ha : am (sNb S) (cuq S x) with
  | none => rw [ha] at h; cases h
  | some p =>
    obtain ⟨i, m⟩ := p
    rw [ha] at h
    cases h
    obtain ⟨h1, h2, h3, h4⟩ := am_some _ _ _ ha
    have hc : sCu S i = true ∧ dS S x i = some m := by
      unfold cuq at h2
      split at h2
      · rename_i hcu
        exact ⟨hcu, h2⟩
      · cases h2
    refine ⟨h1, hc.1, m, hc.2, fun j hj hcu c hd => ?_⟩
    have hq : cuq S x j = some c := by unfold cuq; rw [if_pos hcu]; exact hd
    have g3 := h3 j hj c hq
    by_cases e : j < i
    · have g4 := h4 j e c hq
      exact Or.inl g4
    · rcases Nat.lt_or_ge m c with g | g
      · exact Or.inl g
      · exact Or.inr ⟨by omega, by omega⟩
theorem nrC_none {S : St} {x : Nat} (h : nrC S x = none) : ∀ j, j < sNb S → sCu S j = true → dS S x j = none := by
  intro j hj hcu
  unfold nrC amI at h
  cases ha : am (sNb S) (cuq S x) with
  | none =>
    have := am_none _ ha j hj
    unfold cuq at this
    rw [if_pos hcu] at this
    exact this
  | some p => rw [ha] at h; cases h
/-! counting -/
theorem cnt_T (n : Nat) : cnt n (fun _ => true) = n := by
  induction n with
  | zero => rfl
  | succ n ih =>
    show cnt n (fun _ => true) + (if true = true then 1 else 0) = n + 1
    rw [ih, if_pos rfl]
theorem fnd_up {m : Nat} {p : Nat → Bool} : (fnd (m + 1) p).isSome = ((fnd m p).isSome || p m) := by
  cases e : fnd m p with
  | some k =>
    obtain ⟨h1, h2, h3⟩ := fnd_is e
    rw [fnd_some (by omega : k < m + 1) h2 h3]
    rfl
  | none =>
    have h := fnd_no e
    cases q : p m with
    | true => rw [fnd_some (by omega : m < m + 1) q h]; rfl
    | false =>
      rw [fnd_none (fun j hj => by
        by_cases e2 : j = m
        · rw [e2]; exact q
        · exact h j (by omega))]
      rfl
/-- places that differ, counted -/
theorem cnt_inj {n : Nat} {f : Nat → Nat} : ∀ m, (∀ t, t < m → f t < n) → (∀ t u, t < m → u < m → f t = f u → t = u) → cnt n (fun b => (fnd m (fun t => f t == b)).isSome) = m := by
  intro m
  induction m with
  | zero =>
    intro _ _
    exact cnt_0 fun j _ => rfl
  | succ m ih =>
    intro h1 h2
    have ih' := ih (fun t ht => h1 t (by omega)) (fun t u ht hu e => h2 t u (by omega) (by omega) e)
    have hno : (fnd m (fun t => f t == f m)).isSome = false := by
      rw [fnd_none (fun j hj => by
        cases q : f j == f m with
        | false => rfl
        | true =>
          have e : f j = f m := by simpa using q
          have := h2 j m (by omega) (by omega) e
          omega)]
      rfl
    have key := cnt_one (n := n) (i := f m) (p := fun b => (fnd m (fun t => f t == b)).isSome) (q := fun b => (fnd (m + 1) (fun t => f t == b)).isSome) (h1 m (by omega)) hno (by
      show (fnd (m + 1) (fun t => f t == f m)).isSome = true
      rw [fnd_up]
      simp) (fun j _ hne => by
      show (fnd m (fun t => f t == j)).isSome = (fnd (m + 1) (fun t => f t == j)).isSome
      rw [fnd_up]
      have : (f m == j) = false := by
        cases q : f m == j with
        | false => rfl
        | true => exact absurd (by simpa using q : f m = j) (fun e => hne e.symm)
      rw [this, Bool.or_false])
    rw [key, ih']
theorem cnt_in {S : St} (h : WF S) : cnt (sNb S) (fun b => (tAt S b).isSome) = sNt S := cnt_inj (f := sPl S) (sNt S) (fun t ht => (h.2.2.2.2.1 t ht).1) (fun t u ht hu e => h.2.2.2.2.2.2.2.1 t u ht hu e)
theorem ahd_b {S : St} {t : Nat} (ht : t < sNt S) : ahd S t < sNt S := by
  have h := cnt_lt (n := sNt S) (i := t) (p := fun u => decide (sPr S t < sPr S u) || (sPr S u == sPr S t && decide (u < t))) (q := fun _ => true) (fun _ _ _ => rfl) ht (by simp) rfl
  rw [cnt_T] at h
  exact h
/-- every rank is a train's -/
theorem rkT_some {S : St} {r : Nat} (hr : r < sNt S) : ∃ t, rkT S r = some t ∧ t < sNt S ∧ ahd S t = r := by
  have h := cnt_inj (n := sNt S) (f := ahd S) (sNt S) (fun t ht => ahd_b ht) (fun t u ht hu e => ahd_inj ht hu e)
  have h2 := cnt_full (n := sNt S) (p := fun b => (fnd (sNt S) (fun t => ahd S t == b)).isSome) (by rw [h]; exact Nat.le_refl _) r hr
  cases e : fnd (sNt S) (fun t => ahd S t == r) with
  | none => rw [e] at h2; cases h2
  | some t =>
    obtain ⟨h3, h4, -⟩ := fnd_is e
    exact ⟨t, e, h3, by simpa using h4⟩
theorem rkT_no {S : St} {r : Nat} (hr : sNt S ≤ r) : rkT S r = none := fnd_none fun j hj => by
  have := ahd_b hj
  cases q : ahd S j == r with
  | false => rfl
  | true =>
    have e : ahd S j = r := by simpa using q
    omega
/-! trains -/
theorem tAt_pl {S : St} (h : WF S) {t : Nat} (ht : t < sNt S) : tAt S (sPl S t) = some t := fnd_some ht (by simp) (fun j hj => by
  cases q : sPl S j == sPl S t with
  | false => rfl
  | true =>
    have := h.2.2.2.2.2.2.2.1 j t (by omega) ht (by simpa using q)
    omega)
theorem nx_some {S : St} {t b : Nat} (h : nx S t = some b) : ∃ g c c', sGo S t = some g ∧ sLk S (sPl S t) b = true ∧ dS S (sPl S t) g = some c ∧ dS S b g = some c' ∧ c = sLen S b + c' := by
  unfold nx at h
  split at h
  · cases h
  · rename_i g hg
    split at h
    · cases h
    · split at h
      · cases h
      · rename_i c hc
        obtain ⟨-, h2, -⟩ := fnd_is h
        simp only [Bool.and_eq_true] at h2
        obtain ⟨h3, h4⟩ := h2
        split at h4
        · cases h4
        · rename_i c' hc'
          refine ⟨g, c, c', hg, h3, hc, hc', ?_⟩
          have : c' + sLen S b = c := by simpa using h4
          omega
theorem nx_none {S : St} {K : Nat} (hg : WG S K) {t : Nat} (ht : t < sNt S) (h : nx S t = none) : sGo S t = none ∨ ∃ g, sGo S t = some g ∧ dS S (sPl S t) g = none := by
  unfold nx at h
  split at h
  · rename_i e
    exact Or.inl e
  · rename_i g e
    have hne := (hg.2.2.2.1 t ht g e).2
    rw [if_neg hne] at h
    refine Or.inr ⟨g, e, ?_⟩
    split at h
    · assumption
    · rename_i c hc
      obtain ⟨x, c', h1, h2, h3⟩ := dS_first (fun q => hne q.symm) hc
      have hx := (hg.1.2.2.2.1 _ _ h1).2.1
      have := fnd_no h x hx
      rw [h1, h2] at this
      simp [Nat.add_comm, h3] at this
theorem bk_some {S : St} {K : Nat} (hg : WG S K) {t u : Nat} (ht : t < sNt S) (h : bk S t = some u) : ∃ b, nx S t = some b ∧ u ≠ t ∧ sOf S t = false ∧ u < sNt S ∧ sPl S u = b := by
  unfold bk at h
  split at h
  · cases h
  · rename_i hof
    split at h
    · cases h
    · rename_i b hb
      obtain ⟨h1, h2⟩ := tAt_some h
      refine ⟨b, hb, fun e => ?_, ?_, h1, h2⟩
      · have hl := (nx_lt hb).2
        rw [e] at h2
        exact (hg.1.2.2.2.1 _ _ hl).2.2.1 h2
      · cases q : sOf S t with
        | true => exact absurd q hof
        | false => rfl
theorem bk_none {S : St} {t : Nat} (h : bk S t = none) : nx S t = none ∨ sOf S t = true ∨ ∃ b, nx S t = some b ∧ tAt S b = none := by
  unfold bk at h
  split at h
  · rename_i e
    exact Or.inr (Or.inl e)
  · split at h
    · rename_i e
      exact Or.inl e
    · rename_i b e
      exact Or.inr (Or.inr ⟨b, e, h⟩)
/-! the trains that are stuck: never one alone -/
theorem cyc_two {S : St} {K : Nat} (hg : WG S K) : stN S ≠ 1 := by
  intro h1
  unfold stN at h1
  have hex : ∃ t, t < sNt S ∧ cycB (bk S) t = true := by
    rcases Classical.em (∃ t, t < sNt S ∧ cycB (bk S) t = true) with q | q
    · exact q
    · rw [cnt_0 (fun j hj => by
        cases e : cycB (bk S) j with
        | false => rfl
        | true => exact absurd ⟨j, hj, e⟩ q)] at h1
      omega
  obtain ⟨t, ht, hc⟩ := hex
  obtain ⟨j, j1, hj⟩ := cycB_t.mp hc
  obtain ⟨u, hu⟩ := it_pre hj j1
  have hB : bk S t = some u := hu
  obtain ⟨-, -, hne, -, hul, -⟩ := bk_some hg ht hB
  have hcu : cycB (bk S) u = true := by
    refine cycB_t.mpr ⟨j, j1, ?_⟩
    have e1 : it (bk S) (1 + j) t = it (bk S) j u := it_at hu
    have e2 : it (bk S) (j + 1) t = it (bk S) 1 t := it_at hj
    rw [← e1, Nat.add_comm, e2]
    exact hu
  have h2 := cnt_lt (n := sNt S) (i := u) (p := fun x => decide (x = t)) (q := cycB (bk S)) (fun x _ hx => by
    have e : x = t := of_decide_eq_true hx
    rw [e]; exact hc) hul (decide_eq_false hne) hcu
  have h3 : 0 < cnt (sNt S) (fun x => decide (x = t)) := by
    have := cnt_lt (n := sNt S) (i := t) (p := fun _ => false) (q := fun x => decide (x = t)) (fun x _ hx => by cases hx) ht rfl (decide_eq_true rfl)
    omega
  omega
/-! ticks -/
theorem ticksN_add (S : St) (a : Nat) : ∀ b, ticksN (a + b) S = ticksN b (ticksN a S) := by
  intro b
  induction b with
  | zero => rfl
  | succ b ih =>
    show tick (ticksN (a + b) S) = tick (ticksN b (ticksN a S))
    rw [ih]
theorem sTk_ticks (S : St) : ∀ c, sTk (ticksN c S) = sTk S + nI c := by
  intro c
  induction c with
  | zero => exact (Int32.add_zero _).symm
  | succ c ih =>
    show sTk (acts (ticksN c S) (sNt (ticksN c S))) + 1 = _
    rw [(acts_nn _ _).2.2.2, ih, Int32.add_assoc, nI_1]
/-- a goal that is reached stays reached; and it isn't another -/
theorem go_act (S : St) (t u : Nat) : sGo (act S t) u = sGo S u ∨ (sGo (act S t) u = none ∧ sAr (act S t) = sAr S + 1) := by
  unfold act
  split
  · exact Or.inl rfl
  · split
    · exact Or.inl rfl
    · split
      · exact Or.inl rfl
      · rename_i b hb
        split
        · show (if sGo S t = some b then va_up (sGo S) t none else sGo S) u = sGo S u ∨ ((if sGo S t = some b then va_up (sGo S) t none else sGo S) u = none ∧ (if sGo S t = some b then sAr S + 1 else sAr S) = sAr S + 1)
          split
          · by_cases e : u = t
            · subst e
              exact Or.inr ⟨up_s _ _ _, rfl⟩
            · exact Or.inl (up_n _ _ e)
          · exact Or.inl rfl
        · exact Or.inl rfl
/-- how many arrivals: a number; and at least one where a goal is reached -/
theorem go_acts (S : St) (u : Nat) : ∀ r, ∃ k, k ≤ r ∧ sAr (acts S r) = sAr S + nI k ∧ (sGo (acts S r) u = sGo S u ∨ (sGo (acts S r) u = none ∧ 1 ≤ k)) := by
  intro r
  induction r with
  | zero => exact ⟨0, Nat.le_refl _, (Int32.add_zero _).symm, Or.inl rfl⟩
  | succ r ih =>
    obtain ⟨k, h1, h2, h3⟩ := ih
    unfold acts
    split
    · exact ⟨k, by omega, h2, h3⟩
    · rename_i t _
      rcases go_act (acts S r) t u with e | ⟨e1, e2⟩
      · rcases ar_act (acts S r) t with q | q
        · exact ⟨k, by omega, q.trans h2, by rw [e]; exact h3⟩
        · refine ⟨k + 1, by omega, by rw [q, h2, Int32.add_assoc, nI_1], ?_⟩
          rw [e]
          exact h3.imp id (fun z => ⟨z.1, by omega⟩)
      · exact ⟨k + 1, by omega, by rw [e2, h2, Int32.add_assoc, nI_1], Or.inr ⟨e1, by omega⟩⟩
theorem go_ticks {S : St} (h : WF S) (u : Nat) : ∀ c, ∃ k, k ≤ 6 * c ∧ sAr (ticksN c S) = sAr S + nI k ∧ (sGo (ticksN c S) u = sGo S u ∨ (sGo (ticksN c S) u = none ∧ 1 ≤ k)) := by
  intro c
  induction c with
  | zero => exact ⟨0, Nat.le_refl _, (Int32.add_zero _).symm, Or.inl rfl⟩
  | succ c ih =>
    obtain ⟨k, h1, h2, h3⟩ := ih
    obtain ⟨j, g1, g2, g3⟩ := go_acts (ticksN c S) u (sNt (ticksN c S))
    have h6 := (wf_ticks h c).nt
    refine ⟨k + j, by omega, ?_, ?_⟩
    · show sAr (acts (ticksN c S) (sNt (ticksN c S))) = _
      rw [g2, h2, Int32.add_assoc, nI_add]
    · have e : sGo (ticksN (c + 1) S) u = sGo (acts (ticksN c S) (sNt (ticksN c S))) u := rfl
      rw [e]
      rcases g3 with g | ⟨g, g'⟩
      · rw [g]
        exact h3.imp id (fun z => ⟨z.1, by omega⟩)
      · exact Or.inr ⟨g, by omega⟩
theorem go_keep {S : St} (h : WF S) {u : Nat} {a b : Nat} (hab : a ≤ b) (hn : sGo (ticksN a S) u = none) : sGo (ticksN b S) u = none := by
  obtain ⟨k, -, -, h3⟩ := go_ticks (wf_ticks h a) u (b - a)
  rw [← ticksN_add, show a + (b - a) = b by omega] at h3
  rcases h3 with e | e
  · rw [e]; exact hn
  · exact e.1
/-- told: by which tick the goal is reached -/
theorem tta_is {S : St} (h : WF S) {u k : Nat} (ht : tta S u = some k) (c : Nat) : sGo (ticksN c S) u = none ↔ k ≤ c ∨ sGo S u = none := by
  unfold tta at ht
  cases e : fnd 99 (fun k => (sGo (ticksN (k + 1) S) u).isNone) with
  | none => rw [e] at ht; cases ht
  | some j =>
    rw [e] at ht
    have hk : j + 1 = k := Option.some.inj ht
    obtain ⟨h1, h2, h3⟩ := fnd_is e
    have h2' : sGo (ticksN (j + 1) S) u = none := by simpa using h2
    constructor
    · intro hn
      rcases Nat.lt_or_ge c k with q | q
      · cases c with
        | zero => exact Or.inr hn
        | succ c =>
          have := h3 c (by omega)
          rw [hn] at this
          cases this
      · exact Or.inl q
    · rintro (q | q)
      · exact go_keep h (by omega) h2'
      · exact go_keep h (Nat.zero_le _) (a := 0) q
theorem tta_no {S : St} {u : Nat} (ht : tta S u = none) {c : Nat} (h1 : 1 ≤ c) (h2 : c ≤ 99) : sGo (ticksN c S) u ≠ none := by
  unfold tta at ht
  cases e : fnd 99 (fun k => (sGo (ticksN (k + 1) S) u).isNone) with
  | some j => rw [e] at ht; cases ht
  | none =>
    have := fnd_no e (c - 1) (by omega)
    rw [show c - 1 + 1 = c by omega] at this
    intro q
    rw [q] at this
    cases this
theorem tta_shift {S : St} (h : WF S) {u k c : Nat} (ht : tta S u = some k) (hc : c < k) (hg : sGo S u ≠ none) : tta (ticksN c S) u = some (k - c) := by
  have hk := tta_lt ht
  have is := tta_is h ht
  refine show (fnd 99 (fun j => (sGo (ticksN (j + 1) (ticksN c S)) u).isNone)).map (· + 1) = some (k - c) from ?_
  rw [fnd_some (k := k - c - 1) (by omega) (by
    show (sGo (ticksN (k - c - 1 + 1) (ticksN c S)) u).isNone = true
    rw [← ticksN_add, (is _).mpr (Or.inl (by omega))]
    rfl) (fun j hj => by
    show (sGo (ticksN (j + 1) (ticksN c S)) u).isNone = false
    rw [← ticksN_add]
    cases e : sGo (ticksN (c + (j + 1)) S) u with
    | some g => rfl
    | none =>
      rcases (is _).mp e with q | q
      · omega
      · exact absurd q hg)]
  show some (k - c - 1 + 1) = some (k - c)
  congr 1
  omega
/-- a derailed train stays where it is -/
theorem off_act {S : St} {t u : Nat} (hof : sOf S u = true) : sOf (act S t) u = true ∧ sGo (act S t) u = sGo S u := by
  unfold act
  split
  · exact ⟨hof, rfl⟩
  · rename_i hn
    split
    · exact ⟨hof, rfl⟩
    · split
      · exact ⟨hof, rfl⟩
      · rename_i b hb
        split
        · have hne : u ≠ t := fun e => hn (by rw [← e]; exact hof)
          refine ⟨?_, ?_⟩
          · show (if sCa S b = true then va_up (sOf S) t true else sOf S) u = true
            split
            · rw [up_n _ _ hne]; exact hof
            · exact hof
          · show (if sGo S t = some b then va_up (sGo S) t none else sGo S) u = sGo S u
            split
            · exact up_n _ _ hne
            · rfl
        · exact ⟨hof, rfl⟩
theorem off_acts {S : St} {u : Nat} (hof : sOf S u = true) : ∀ r, sOf (acts S r) u = true ∧ sGo (acts S r) u = sGo S u := by
  intro r
  induction r with
  | zero => exact ⟨hof, rfl⟩
  | succ r ih =>
    unfold acts
    split
    · exact ih
    · obtain ⟨h1, h2⟩ := off_act (t := by assumption) ih.1
      exact ⟨h1, h2.trans ih.2⟩
theorem off_ticks {S : St} {u : Nat} (hof : sOf S u = true) : ∀ c, sOf (ticksN c S) u = true ∧ sGo (ticksN c S) u = sGo S u := by
  intro c
  induction c with
  | zero => exact ⟨hof, rfl⟩
  | succ c ih =>
    obtain ⟨h1, h2⟩ := off_acts ih.1 (sNt (ticksN c S))
    exact ⟨h1, h2.trans ih.2⟩
theorem off_tta {S : St} {u : Nat} (hof : sOf S u = true) (hg : sGo S u ≠ none) : tta S u = none := by
  show (fnd 99 (fun k => (sGo (ticksN (k + 1) S) u).isNone)).map (· + 1) = none
  rw [fnd_none (fun j _ => by
    rw [(off_ticks hof (j + 1)).2]
    cases e : sGo S u with
    | some g => rfl
    | none => exact absurd e hg)]
  rfl
end JFACT

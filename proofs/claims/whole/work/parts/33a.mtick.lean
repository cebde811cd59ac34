/-! THE MODEL: its ticks -/
section JMTICK
theorem inj_surj : ∀ (n : Nat) (f : Nat → Nat), (∀ i, i < n → f i < n) → (∀ i j, i < n → j < n → f i = f j → i = j) → ∀ r, r < n → ∃ i, i < n ∧ f i = r := by
  intro n
  induction n with
  | zero => intro f _ _ r hr; omega
  | succ n ih =>
    intro f hf hi r hr
    by_cases e : r = f n
    · exact ⟨n, by omega, e.symm⟩
    · have hg : ∀ i, i < n → (if f i = n then f n else f i) < n := fun i hin => by
        have h1 := hf i (by omega)
        have h2 := hf n (by omega)
        split
        · rename_i q
          have : f n ≠ n := fun z => by have := hi i n (by omega) (by omega) (q.trans z.symm); omega
          omega
        · omega
      have hgi : ∀ i j, i < n → j < n → (if f i = n then f n else f i) = (if f j = n then f n else f j) → i = j := fun i j h1 h2 h => by
        split at h
        · rename_i q1
          split at h
          · rename_i q2
            exact hi i j (by omega) (by omega) (q1.trans q2.symm)
          · have := hi n j (by omega) (by omega) h; omega
        · split at h
          · have := hi i n (by omega) (by omega) h; omega
          · exact hi i j (by omega) (by omega) h
      have key : ∀ y, y < n → y ≠ f n → ∃ i, i < n ∧ f i = y := fun y hy hne => by
        obtain ⟨i, h1, h2⟩ := ih _ hg hgi y hy
        refine ⟨i, h1, ?_⟩
        split at h2
        · exact absurd h2.symm hne
        · exact h2
      by_cases e2 : r = n
      · by_cases e3 : f n = n
        · exact absurd (e2.trans e3.symm) e
        · have h3 := hf n (by omega)
          obtain ⟨i, h1, h2⟩ := ih _ hg hgi (f n) (by omega)
          refine ⟨i, by omega, ?_⟩
          split at h2
          · rename_i q; rw [e2]; exact q
          · have := hi i n (by omega) (by omega) h2; omega
      · obtain ⟨i, h1, h2⟩ := key r (by omega) e
        exact ⟨i, by omega, h2⟩
theorem cnt_true (n : Nat) : cnt n (fun _ => true) = n := by
  induction n with
  | zero => rfl
  | succ n ih => show cnt n _ + 1 = n + 1; rw [ih]
theorem ahd_ltn {S : St} {t : Nat} (ht : t < sNt S) : ahd S t < sNt S := by
  have h := cnt_lt (n := sNt S) (i := t) (p := fun u => decide (sPr S t < sPr S u) || (sPr S u == sPr S t && decide (u < t))) (q := fun _ => true) (fun _ _ _ => rfl) ht (by simp) rfl
  rw [cnt_true] at h
  exact h
/-- each rank below the number of trains is some train's -/
theorem rkT_ex {S : St} {r : Nat} (hr : r < sNt S) : ∃ t, t < sNt S ∧ rkT S r = some t := by
  obtain ⟨t, h1, h2⟩ := inj_surj (sNt S) (ahd S) (fun i hi => ahd_ltn hi) (fun i j hi hj e => ahd_inj hi hj e) r hr
  cases e : rkT S r with
  | none => have := fnd_no e t h1; simp [h2] at this
  | some u => exact ⟨u, (fnd_is e).1, rfl⟩
theorem rkX_ex {S : St} (h : WF S) {r : Nat} (hr : r < sNt S) : ∃ t, t < sNt S ∧ rkX S (nI r) = some t := by
  have := h.nt
  rw [rkX_n h (by omega)]
  exact rkT_ex hr
theorem go_mov (S : St) (t b : Nat) : sGo (sMove S t b) = if sGo S t = some b then va_up (sGo S) t none else sGo S := rfl
/-- whether a train arrives by what it does -/
noncomputable def arv (S : St) (t : Nat) : Bool := (sGo S t).isSome && (sGo (act S t) t).isNone
theorem act_go_ne {S : St} {t u : Nat} (h : u ≠ t) : sGo (act S t) u = sGo S u := by
  unfold act
  split
  · rfl
  · split
    · rfl
    · split
      · rfl
      · split
        · rw [go_mov]
          split
          · rw [up_n _ _ h]
          · rfl
        · rfl
theorem act_go_no {S : St} {t : Nat} (h : sGo S t = none) : sGo (act S t) t = none := by
  unfold act
  split
  · exact h
  · split
    · exact h
    · split
      · exact h
      · split
        · rw [go_mov]
          split
          · rw [up_s]
          · exact h
        · exact h
theorem arv_same {S : St} {t : Nat} (h : sGo (act S t) t = sGo S t) : arv S t = false := by
  unfold arv
  rw [h]
  cases sGo S t <;> rfl
theorem act_off {S : St} {t : Nat} (h : sOf S t = true) : act S t = S := by unfold act; rw [if_pos h]
theorem act_rem {S : St} {t : Nat} (h : sOf S t = false) (h2 : 0 < sRe S t) : act S t = sLess S t := by unfold act; rw [if_neg (by rw [h]; decide), if_pos h2]
theorem act_non {S : St} {t : Nat} (h : sOf S t = false) (h2 : ¬ 0 < sRe S t) (h3 : nx S t = none) : act S t = S := by unfold act; rw [if_neg (by rw [h]; decide), if_neg h2, h3]
theorem act_mov {S : St} {t b : Nat} (h : sOf S t = false) (h2 : ¬ 0 < sRe S t) (h3 : nx S t = some b) (h4 : tAt S b = none ∧ (hOf S b = none ∨ hOf S b = some t)) : act S t = sMove S t b := by
  unfold act
  rw [if_neg (by rw [h]; decide), if_neg h2, h3]
  simp only
  rw [if_pos h4]
theorem act_wai {S : St} {t b : Nat} (h : sOf S t = false) (h2 : ¬ 0 < sRe S t) (h3 : nx S t = some b) (h4 : ¬ (tAt S b = none ∧ (hOf S b = none ∨ hOf S b = some t))) : act S t = sWait S t := by
  unfold act
  rw [if_neg (by rw [h]; decide), if_neg h2, h3]
  simp only
  rw [if_neg h4]
end JMTICK

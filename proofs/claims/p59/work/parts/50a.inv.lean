/-! WHAT MORE HOLDS OF EVERY RAILWAY THAT IS REACHED -/
section JINV
/-- cats and trains are apart; what remains is within the block's length; goals are other cushions; the waits are counted, at most K -/
def WX (S : St) (K : Nat) : Prop :=
  (∀ t, t < sNt S → sCa S (sPl S t) = false) ∧ (∀ t, t < sNt S → sRe S t ≤ sLen S (sPl S t)) ∧
  (∀ t, t < sNt S → ∀ g, sGo S t = some g → sCu S g = true ∧ g ≠ sPl S t) ∧ ∀ t, t < sNt S → ∃ k, k ≤ K ∧ sWa S t = nI k
def WG (S : St) (K : Nat) : Prop := WF S ∧ WX S K
theorem WX.mono {S : St} {K K' : Nat} (h : WX S K) (hk : K ≤ K') : WX S K' := ⟨h.1, h.2.1, h.2.2.1, fun t ht => by
  obtain ⟨k, h1, h2⟩ := h.2.2.2 t ht
  exact ⟨k, by omega, h2⟩⟩
theorem WG.mono {S : St} {K K' : Nat} (h : WG S K) (hk : K ≤ K') : WG S K' := ⟨h.1, h.2.mono hk⟩
theorem wf_oAdd {S : St} (h : WF S) (x : Int32) (c : Bool) : WF (oAdd S x c).2.2 := by
  unfold oAdd
  split
  · exact h
  · rename_i k hk
    obtain ⟨h1, h2, -⟩ := v19_some hk
    have hnb := h.nb
    split
    · exact h
    · exact wf_add h (by omega) h1 h2 c
theorem wg_add {S : St} {K : Nat} (h : WG S K) (x : Int32) (c : Bool) : WG (oAdd S x c).2.2 K := by
  refine ⟨wf_oAdd h.1 x c, ?_⟩
  obtain ⟨hW, x1, x2, x3, x4⟩ := h
  unfold oAdd
  split
  · exact ⟨x1, x2, x3, x4⟩
  · rename_i k hk
    split
    · exact ⟨x1, x2, x3, x4⟩
    · refine ⟨x1, fun t ht => ?_, fun t ht g hg => ?_, x4⟩
      · have := (hW.2.2.2.2.1 t ht).1
        show sRe S t ≤ va_up (sLen S) (sNb S) k (sPl S t)
        rw [up_n _ _ (by omega)]
        exact x2 t ht
      · have := hW.2.2.2.2.2.1 t ht g hg
        obtain ⟨a, b⟩ := x3 t ht g hg
        refine ⟨?_, b⟩
        show va_up (sCu S) (sNb S) c g = true
        rw [up_n _ _ (by omega)]
        exact a
theorem wg_join {S : St} {K : Nat} (h : WG S K) (x y : Int32) : WG (oJoin S x y).2.2 K := by
  have hnb := h.1.nb
  unfold oJoin
  split
  · rename_i a b ha hb
    have h1 := (vi_some (by omega) ha).1
    have h2 := (vi_some (by omega) hb).1
    split
    · exact h
    · rename_i hne
      split
      · exact h
      · exact ⟨wf_link h.1 h1 h2 hne true, h.2⟩
  · exact h
theorem wg_part {S : St} {K : Nat} (h : WG S K) (x y : Int32) : WG (oPart S x y).2.2 K := by
  have hnb := h.1.nb
  unfold oPart
  split
  · rename_i a b ha hb
    have h1 := (vi_some (by omega) ha).1
    have h2 := (vi_some (by omega) hb).1
    split
    · rename_i hl
      exact ⟨wf_link h.1 h1 h2 (h.1.2.2.2.1 _ _ hl).2.2.1 false, h.2⟩
    · exact h
  · exact h
theorem wg_cat {S : St} {K : Nat} (h : WG S K) (x : Int32) : WG (oCat S x).2.2 K := by
  have hnb := h.1.nb
  unfold oCat
  split
  · exact h
  · rename_i b hb
    have h1 := (vi_some (by omega) hb).1
    split
    · exact h
    · split
      · exact h
      · rename_i ht0
        refine ⟨wf_cat h.1 h1 true, fun t ht => ?_, h.2.2⟩
        show va_up (sCa S) b true (sPl S t) = false
        rw [up_n _ _ (tAt_none ht0 t ht)]
        exact h.2.1 t ht
theorem wg_shoo {S : St} {K : Nat} (h : WG S K) (x : Int32) : WG (oShoo S x).2.2 K := by
  have hnb := h.1.nb
  unfold oShoo
  split
  · exact h
  · rename_i b hb
    have h1 := (vi_some (by omega) hb).1
    split
    · refine ⟨wf_cat h.1 h1 false, fun t ht => ?_, h.2.2⟩
      show va_up (sCa S) b false (sPl S t) = false
      by_cases e : sPl S t = b
      · rw [e, up_s]
      · rw [up_n _ _ e]
        exact h.2.1 t ht
    · exact h
theorem wg_train {S : St} {K : Nat} (h : WG S K) (x y : Int32) : WG (oTrain S x y).2.2 K := by
  have hnb := h.1.nb
  have hnt := h.1.nt
  unfold oTrain
  split
  · exact h
  · rename_i b hb
    have hb1 := (vi_some (by omega) hb).1
    split
    · exact h
    · rename_i k hk
      obtain ⟨k1, k2, -⟩ := v19_some hk
      split
      · exact h
      · rename_i h6
        split
        · rename_i ht0 hh0
          split
          · exact h
          · rename_i hc
            refine ⟨wf_train h.1 hb1 k1 k2 (by omega) ht0, fun t ht => ?_, fun t ht => ?_, fun t ht g hg => ?_, fun t ht => ?_⟩
            · have ht : t < sNt S + 1 := ht
              show sCa S (va_up (sPl S) (sNt S) b t) = false
              by_cases e : t = sNt S
              · rw [e, up_s]
                cases hq : sCa S b with
                | true => exact absurd hq hc
                | false => rfl
              · rw [up_n _ _ e]
                exact h.2.1 t (by omega)
            · have ht : t < sNt S + 1 := ht
              show va_up (sRe S) (sNt S) 0 t ≤ sLen S (va_up (sPl S) (sNt S) b t)
              by_cases e : t = sNt S
              · rw [e, up_s]
                exact Nat.zero_le _
              · rw [up_n _ _ e, up_n _ _ e]
                exact h.2.2.1 t (by omega)
            · have ht : t < sNt S + 1 := ht
              have hg : va_up (sGo S) (sNt S) none t = some g := hg
              show sCu S g = true ∧ g ≠ va_up (sPl S) (sNt S) b t
              by_cases e : t = sNt S
              · rw [e, up_s] at hg
                cases hg
              · rw [up_n _ _ e] at hg
                rw [up_n _ _ e]
                exact h.2.2.2.1 t (by omega) g hg
            · have ht : t < sNt S + 1 := ht
              show ∃ k, k ≤ K ∧ va_up (sWa S) (sNt S) 0 t = nI k
              by_cases e : t = sNt S
              · rw [e, up_s]
                exact ⟨0, Nat.zero_le _, rfl⟩
              · rw [up_n _ _ e]
                exact h.2.2.2.2 t (by omega)
        · exact h
theorem wg_aim {S : St} {K : Nat} (h : WG S K) (x y : Int32) : WG (oAim S x y).2.2 K := by
  have hnb := h.1.nb
  unfold oAim
  split
  · rename_i t b ht hb
    have h2 := (vi_some (by omega) hb).1
    split
    · exact h
    · rename_i hcu
      split
      · exact h
      · rename_i hpl
        split
        · exact h
        · refine ⟨wf_goal h.1 (fun z e => by cases e; exact h2), h.2.1, h.2.2.1, fun u hu g hg => ?_, h.2.2.2.2⟩
          have hg : va_up (sGo S) t (some b) u = some g := hg
          show sCu S g = true ∧ g ≠ sPl S u
          by_cases e : u = t
          · rw [e, up_s] at hg
            cases hg
            refine ⟨?_, fun q => hpl (by rw [q, e])⟩
            cases hq : sCu S b with
            | true => rfl
            | false => exact absurd hq hcu
          · rw [up_n _ _ e] at hg
            exact h.2.2.2.1 u hu g hg
  · exact h
theorem wg_drop {S : St} {K : Nat} (h : WG S K) (x : Int32) : WG (oDrop S x).2.2 K := by
  unfold oDrop
  split
  · exact h
  · rename_i t ht
    split
    · exact h
    · refine ⟨wf_goal h.1 (fun z e => by cases e), h.2.1, h.2.2.1, fun u hu g hg => ?_, h.2.2.2.2⟩
      have hg : va_up (sGo S) t none u = some g := hg
      show sCu S g = true ∧ g ≠ sPl S u
      by_cases e : u = t
      · rw [e, up_s] at hg
        cases hg
      · rw [up_n _ _ e] at hg
        exact h.2.2.2.1 u hu g hg
theorem wg_hold {S : St} {K : Nat} (h : WG S K) (x y : Int32) : WG (oHold S x y).2.2 K := by
  have hnb := h.1.nb
  unfold oHold
  split
  · rename_i t b ht hb
    have h2 := (vi_some (by omega) hb).1
    split
    · exact h
    · split
      · exact h
      · split
        · rename_i ht0 hh0
          exact ⟨wf_hold h.1 (fun z e => by cases e; exact ⟨h2, fun u hu _ => hOf_none hh0 u hu⟩), h.2⟩
        · exact h
  · exact h
theorem wg_free {S : St} {K : Nat} (h : WG S K) (x : Int32) : WG (oFree S x).2.2 K := by
  unfold oFree
  split
  · exact h
  · split
    · exact h
    · exact ⟨wf_hold h.1 (fun z e => by cases e), h.2⟩
theorem wg_resc {S : St} {K : Nat} (h : WG S K) (x : Int32) : WG (oResc S x).2.2 K := by
  have hnt := h.1.nt
  unfold oResc
  split
  · exact h
  · rename_i t ht
    have h1 := (vi_some (by omega) ht).1
    split
    · exact ⟨wf_off h.1 h1 false, h.2⟩
    · exact h
theorem wx_act {S : St} {K : Nat} (h : WG S K) {t : Nat} (ht : t < sNt S) : WX (act S t) (K + 1) := by
  have hm := h.2.mono (Nat.le_succ K)
  unfold act
  split
  · exact hm
  · split
    · refine ⟨hm.1, fun u hu => ?_, hm.2.2.1, hm.2.2.2⟩
      show va_up (sRe S) t (sRe S t - 1) u ≤ sLen S (sPl S u)
      have := h.2.2.1 u hu
      by_cases e : u = t
      · subst e
        rw [up_s]
        omega
      · rw [up_n _ _ e]
        exact this
    · split
      · exact hm
      · rename_i b hb
        split
        · rename_i hc
          refine ⟨fun u hu => ?_, fun u hu => ?_, fun u hu g hg => ?_, hm.2.2.2⟩
          · show va_up (sCa S) b false (va_up (sPl S) t b u) = false
            by_cases e : u = t
            · rw [e, up_s, up_s]
            · rw [up_n _ _ e]
              by_cases e2 : sPl S u = b
              · rw [e2, up_s]
              · rw [up_n _ _ e2]
                exact h.2.1 u hu
          · show va_up (sRe S) t (sLen S b) u ≤ sLen S (va_up (sPl S) t b u)
            by_cases e : u = t
            · rw [e, up_s, up_s]
              exact Nat.le_refl _
            · rw [up_n _ _ e, up_n _ _ e]
              exact h.2.2.1 u hu
          · have hg : (if sGo S t = some b then va_up (sGo S) t none else sGo S) u = some g := hg
            show sCu S g = true ∧ g ≠ va_up (sPl S) t b u
            by_cases e : u = t
            · subst e
              rw [up_s]
              split at hg
              · rw [up_s] at hg
                cases hg
              · rename_i hn
                exact ⟨(h.2.2.2.1 u hu g hg).1, fun q => hn (by rw [hg, q])⟩
            · rw [up_n _ _ e]
              split at hg
              · rw [up_n _ _ e] at hg
                exact h.2.2.2.1 u hu g hg
              · exact h.2.2.2.1 u hu g hg
        · refine ⟨hm.1, hm.2.1, hm.2.2.1, fun u hu => ?_⟩
          show ∃ k, k ≤ K + 1 ∧ va_up (sWa S) t (sWa S t + 1) u = nI k
          by_cases e : u = t
          · subst e
            rw [up_s]
            obtain ⟨k, k1, k2⟩ := h.2.2.2.2 u hu
            exact ⟨k + 1, by omega, by rw [k2, nI_1]⟩
          · rw [up_n _ _ e]
            exact hm.2.2.2 u hu
theorem wg_act {S : St} {K : Nat} (h : WG S K) {t : Nat} (ht : t < sNt S) : WG (act S t) (K + 1) := ⟨wf_act h.1 ht, wx_act h ht⟩
theorem wg_acts {S : St} {K : Nat} (h : WG S K) (r : Nat) : WG (acts S r) (K + r) := by
  induction r with
  | zero => exact h
  | succ r ih =>
    unfold acts
    split
    · exact ih.mono (by omega)
    · rename_i t ht
      exact wg_act ih (fnd_is ht).1
theorem wg_tick1 {S : St} {K : Nat} (h : WG S K) : WG (tick S) (K + 6) := by
  have h6 := h.1.nt
  have h1 := (wg_acts h (sNt S)).mono (K' := K + 6) (by omega)
  exact ⟨wf_tick h.1, h1.2⟩
theorem wg_ticks {S : St} {K : Nat} (h : WG S K) (c : Nat) : WG (ticksN c S) (K + 6 * c) := by
  induction c with
  | zero => exact h
  | succ c ih => exact (wg_tick1 ih).mono (by omega)
theorem wg_tick {S : St} {K : Nat} (h : WG S K) (x : Int32) : WG (oTick S x).2.2 (K + 300) := by
  unfold oTick
  split
  · exact (wg_ticks h _).mono (by omega)
  · exact h.mono (by omega)
theorem wg_do {S : St} {K : Nat} (h : WG S K) (c : Nat × List Nat) : WG (doC S c).2.2 (K + 300) := by
  unfold doC
  split
  · exact (wg_add h _ _).mono (by omega)
  · exact (wg_add h _ _).mono (by omega)
  · exact (wg_join h _ _).mono (by omega)
  · exact (wg_train h _ _).mono (by omega)
  · exact (wg_aim h _ _).mono (by omega)
  · exact (wg_cat h _).mono (by omega)
  · exact (wg_hold h _ _).mono (by omega)
  · exact (wg_resc h _).mono (by omega)
  · exact wg_tick h _
theorem wg_run {cs : List (Nat × List Nat)} : ∀ {k : Nat} {S : St} {K : Nat}, WG S K → WG (runC cs k S).2 (K + 300 * cs.length) := by
  induction cs with
  | nil => intro k S K h; exact h
  | cons c cs ih =>
    intro k S K h
    unfold runC
    split
    · exact (ih (wg_do h c)).mono (by rw [List.length_cons]; omega)
    · exact h.mono (by omega)
theorem pAll_len {t : Nat → Nat} {n : Nat} : ∀ (f p : Nat), (pAll t n f p).1.length ≤ f := by
  intro f
  induction f with
  | zero => intro p; exact Nat.le_refl _
  | succ f ih =>
    intro p
    unfold pAll
    split
    · exact Nat.zero_le _
    · exact Nat.succ_le_succ (Nat.zero_le _)
    · exact Nat.succ_le_succ (ih _)
end JINV

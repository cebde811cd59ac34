/-! THE LAW: areWays -/
section JWAYS
/-- the rows of ways, of n by n, at r and behind it: filled up to the row a, the place b -/
def WM (w : Wd) (r n : Nat) (S : St) (a b : Nat) : Prop := w.1 r = .inl (5, n, .inr (.inr (.inr (.inr (rowsF r n))))) ∧ ∀ i, i < n → ∃ f : Nat → Int32, w.1 (r + 1 + i) = .inl (0, n, .inl f) ∧ ∀ j, j < n → (i < a ∨ (i = a ∧ j < b)) → f j = oV (dS S i j)
theorem WM.kp {w w' : Wd} {r n x a b : Nat} {S : St} (h : WM w r n S a b) (k : KP w w' x) (hr : x + 126 ≤ r) : WM w' r n S a b := by
  refine ⟨k.at h.1 (Or.inr hr) nd_l, fun i hi => ?_⟩
  obtain ⟨f, h1, h2⟩ := h.2 i hi
  exact ⟨f, k.at h1 (Or.inr (by omega)) nd_l, h2⟩
theorem WM.next {w : Wd} {r n a : Nat} {S : St} (h : WM w r n S a n) : WM w r n S (a + 1) 0 := by
  refine ⟨h.1, fun i hi => ?_⟩
  obtain ⟨f, h1, h2⟩ := h.2 i hi
  exact ⟨f, h1, fun j hj hc => h2 j hj (by omega)⟩
theorem WM.all {w : Wd} {r n a b : Nat} {S : St} (h : WM w r n S a 0) (ha : n ≤ a) : WM w r n S n b := by
  refine ⟨h.1, fun i hi => ?_⟩
  obtain ⟨f, h1, h2⟩ := h.2 i hi
  exact ⟨f, h1, fun j hj hc => h2 j hj (by omega)⟩
theorem dS_ge {S : St} {a b c : Nat} (hne : a ≠ b) (hd : dS S a b = some c) : sLen S b ≤ c := by
  obtain ⟨x, c', -, -, h⟩ := dst_last hd hne
  omega
theorem way_sub {S : St} (h : WF S) {a b c c' : Nat} (hd : dS S a b = some c) (hd' : dS S b a = some c') : nI c - nI (sLen S b) = nI c' - nI (sLen S a) := by
  by_cases e : a = b
  · subst e
    rw [hd] at hd'
    cases hd'
    rfl
  · obtain ⟨c2, h1, h2⟩ := dS_rev h hd
    rw [hd'] at h1
    cases h1
    have g1 := dS_ge e hd
    have g2 := dS_ge (fun q => e q.symm) hd'
    rw [nI_sub g1, nI_sub g2]
    congr 1
    omega
theorem b2i_and {p q : Bool} : b2i p &&& b2i q = b2i (p && q) := by cases p <;> cases q <;> decide
theorem b2i_or {p q : Bool} : b2i p ||| b2i q = b2i (p || q) := by cases p <;> cases q <;> decide
section
variable {d : Nat} {mi : MI} {pc : Nat} {lc : List (Option Value)} {st : List Value} {w : Wd} {kb sb : Nat} {Q : Po}
theorem K_row {r n a b i : Nat} {S : St} (hd : decode mi.2.1 pc = .ok (.aaload, 1)) (hM : WM w r n S a b) (hi : i < n) (hn : n < 2 ^ 31) (kk : J d mi (pc + 1) lc (.ref (r + 1 + i) :: st) w kb sb Q) : J d mi pc lc (.int (nI i) :: .ref r :: st) w kb sb Q := K_aaldR hd hM.1 hi hn (if_pos hi) kk
theorem K_way {r n a b i j : Nat} {S : St} {v : Int32} (hd : decode mi.2.1 pc = .ok (.iaload, 1)) (hM : WM w r n S a b) (hi : i < n) (hj : j < n) (hn : n < 2 ^ 31) (hc : i < a ∨ (i = a ∧ j < b)) (hv : oV (dS S i j) = v) (kk : J d mi (pc + 1) lc (.int v :: st) w kb sb Q) : J d mi pc lc (.int (nI j) :: .ref (r + 1 + i) :: st) w kb sb Q := by
  obtain ⟨f, h1, h2⟩ := hM.2 i hi
  exact K_iald hd h1 hj hn ((h2 j hj hc).trans hv) kk
theorem K_wput {r n a b : Nat} {S : St} (hd : decode mi.2.1 pc = .ok (.iastore, 1)) (hM : WM w r n S a b) (ha : a < n) (hb : b < n) (hn : n < 2 ^ 31) (kk : ∀ w' : Wd, WM w' r n S a (b + 1) → (∀ c : Nat, c ≠ r + 1 + a → w'.1 c = w.1 c) → J d mi (pc + 1) lc st w' kb sb Q) : J d mi pc lc (.int (oV (dS S a b)) :: .int (nI b) :: .ref (r + 1 + a) :: st) w kb sb Q := by
  obtain ⟨f, h1, h2⟩ := hM.2 a ha
  refine K_iast hd h1 hb hn (fun w' u => kk w' ⟨(u.2.1 _ (by omega)).trans hM.1, fun i hi => ?_⟩ u.2.1)
  by_cases e : i = a
  · subst e
    refine ⟨_, u.1, fun j hj hc => ?_⟩
    by_cases e2 : j = b
    · subst e2
      exact up_s _ _ _
    · rw [up_n _ _ e2]
      exact h2 j hj (by omega)
  · obtain ⟨g, g1, g2⟩ := hM.2 i hi
    exact ⟨g, (u.2.1 _ (by omega)).trans g1, fun j hj hc => g2 j hj (by omega)⟩
end
set_option maxRecDepth 100000 in
/-- the first rows: the ways, and the parts -/
theorem aw_1 {w : Wd} {x r n : Nat} {G : Gme} (hW : WF (gS G)) (hn : n = sNb (gS G)) (hr : x + 126 ≤ r) (hlo : ∀ b, w.1 b ≠ dead → b < r) (B : Nat) (k2 : ∀ w1 o5 o6 o7, KP w w1 x → RepX w1 x G → WM w1 r n (gS G) n 0 → J 41 mL_areWays 221 [some (.ref x), some (.int (nI n)), some (.ref r), some (.int (nI (pcN (gS G)))), some (.int (nI n)), o5, o6, o7] [] w1 (B) (6 * (B)) (YQ w x G)) :
    ∀ m a w1 o5 o6 o7, a + m = n → KP w w1 x → RepX w1 x G → WM w1 r n (gS G) a 0 → J 41 mL_areWays 17 [some (.ref x), some (.int (nI n)), some (.ref r), some (.int (nI (cnt a (prB (gS G))))), some (.int (nI a)), o5, o6, o7] [] w1 (90 * m + B) (6 * (90 * m + B)) (YQ w x G) := by
  have hnb := hW.nb
  intro m
  induction m with
  | zero =>
    intro a w1 o5 o6 o7 ha kp hX hM
    have e : a = n := by omega
    subst e
    refine J_iload dL_areWays_17 rfl ?_
    refine J_iload_n dL_areWays_19 rfl rfl ?_
    refine J_icmp_ge (tgt := 221) dL_areWays_20 (by decide) (fun h20 => ?_) (fun h => absurd ((nI_leI (by omega) (by omega)).mpr (by omega)) h)
    have k := k2 w1 o5 o6 o7 kp hX hM
    rw [show pcN (gS G) = cnt a (prB (gS G)) from by rw [hn]; rfl] at k
    exact J.widen (by omega) (by omega) k
  | succ m ih =>
    intro a w1 o5 o6 o7 ha kp hX hM
    have inner : ∀ q b w1 fi o7, b + q = n → (fi = true ↔ ∀ b', b' < b → b' < a → dS (gS G) a b' = none) → KP w w1 x → RepX w1 x G → WM w1 r n (gS G) a b → J 41 mL_areWays 29 [some (.ref x), some (.int (nI n)), some (.ref r), some (.int (nI (cnt a (prB (gS G))))), some (.int (nI a)), some (.int (b2i fi)), some (.int (nI b)), o7] [] w1 (6 * q + (90 * m + B)) (6 * (6 * q + (90 * m + B))) (YQ w x G) := by
      intro q
      induction q with
      | zero =>
        intro b w1 fi o7 hb hfi kp hX hM
        have e : b = n := by omega
        subst e
        have hpr : prB (gS G) a = fi := by
          cases hf : fi with
          | true => exact (prB_f hW).mpr (fun b' hb' => hfi.mp hf b' (by omega) hb')
          | false =>
            cases hp : prB (gS G) a with
            | false => rfl
            | true =>
              have := hfi.mpr (fun b' _ hb' => (prB_f hW).mp hp b' hb')
              rw [hf] at this
              cases this
        cases hf : fi with
        | true =>
          refine J_iload dL_areWays_29 rfl ?_
          refine J_iload_n dL_areWays_31 rfl rfl ?_
          refine J_icmp_ge (tgt := 202) dL_areWays_32 (by decide) (fun h32 => ?_) (fun h => absurd ((nI_leI (by omega) (by omega)).mpr (by omega)) h)
          refine J_iload_n dL_areWays_202 rfl rfl ?_
          refine J_iload dL_areWays_203 rfl ?_
          refine J_if_eq (tgt := 212) dL_areWays_205 (by decide) (fun h => absurd h (by decide)) (fun h205 => ?_)
          refine J_iconst (v := nI 1) dL_areWays_208 (by decide) ?_
          refine J_goto (tgt := 213) dL_areWays_209 (by decide) ?_
          refine K_iadd (v := nI (cnt a (prB (gS G)) + 1)) dL_areWays_213 (nI_add _ _) ?_
          refine J_istore_n dL_areWays_214 rfl (by decide) rfl ?_
          refine J_iinc (v := nI (a + 1)) dL_areWays_215 rfl (nI_succ _).symm (by decide) rfl ?_
          refine J_goto (tgt := 17) dL_areWays_218 (by decide) ?_
          have k := fun o5 o6 o7 => ih (a + 1) w1 o5 o6 o7 (by omega) kp hX hM.next
          rw [show cnt (a + 1) (prB (gS G)) = cnt a (prB (gS G)) + 1 from by show cnt a _ + (if prB (gS G) a = true then 1 else 0) = _; rw [hpr, hf, if_pos rfl]] at k
          exact J.widen (by omega) (by omega) (k _ _ _)
        | false =>
          refine J_iload dL_areWays_29 rfl ?_
          refine J_iload_n dL_areWays_31 rfl rfl ?_
          refine J_icmp_ge (tgt := 202) dL_areWays_32 (by decide) (fun h32 => ?_) (fun h => absurd ((nI_leI (by omega) (by omega)).mpr (by omega)) h)
          refine J_iload_n dL_areWays_202 rfl rfl ?_
          refine J_iload dL_areWays_203 rfl ?_
          refine J_if_eq (tgt := 212) dL_areWays_205 (by decide) (fun h205 => ?_) (fun h => absurd h (by decide))
          refine J_iconst (v := nI 0) dL_areWays_212 (by decide) ?_
          refine K_iadd (v := nI (cnt a (prB (gS G)) + 0)) dL_areWays_213 (nI_add _ _) ?_
          refine J_istore_n dL_areWays_214 rfl (by decide) rfl ?_
          refine J_iinc (v := nI (a + 1)) dL_areWays_215 rfl (nI_succ _).symm (by decide) rfl ?_
          refine J_goto (tgt := 17) dL_areWays_218 (by decide) ?_
          have k := fun o5 o6 o7 => ih (a + 1) w1 o5 o6 o7 (by omega) kp hX hM.next
          rw [show cnt (a + 1) (prB (gS G)) = cnt a (prB (gS G)) + 0 from by show cnt a _ + (if prB (gS G) a = true then 1 else 0) = _; rw [hpr, hf]; rfl] at k
          exact J.widen (by omega) (by omega) (k _ _ _)
      | succ q ihq =>
        intro b w1 fi o7 hb hfi kp hX hM
        have fin : ∀ w1, KP w w1 x → RepX w1 x G → WM w1 r n (gS G) a (b + 1) → J 41 mL_areWays 169 [some (.ref x), some (.int (nI n)), some (.ref r), some (.int (nI (cnt a (prB (gS G))))), some (.int (nI a)), some (.int (b2i fi)), some (.int (nI b)), some (.int (nI 1))] [] w1 (6 * q + (90 * m + B)) (6 * (6 * q + (90 * m + B))) (YQ w x G) := by
          intro w1 kp hX hM
          by_cases hba : b < a
          · cases hd : dS (gS G) a b with
            | none =>
              refine J_iload dL_areWays_169 rfl ?_
              refine J_iload dL_areWays_171 rfl ?_
              refine J_iload dL_areWays_173 rfl ?_
              refine J_icmp_ge (tgt := 188) dL_areWays_175 (by decide) (fun h => absurd ((nI_leI (by omega) (by omega)).mp h) (by omega)) (fun h175 => ?_)
              refine J_aload_n dL_areWays_178 rfl rfl ?_
              refine J_iload dL_areWays_179 rfl ?_
              refine K_row dL_areWays_181 hM (by omega) (by omega) ?_
              refine J_iload dL_areWays_182 rfl ?_
              refine K_way (v := (-75)) dL_areWays_184 hM (by omega) (by omega) (by omega) (by omega) (oV_n hd) ?_
              refine J_if_ge (tgt := 192) dL_areWays_185 (by decide) (fun h => absurd h (by decide)) (fun h185 => ?_)
              refine J_iconst (v := nI 1) dL_areWays_188 (by decide) ?_
              refine J_goto (tgt := 193) dL_areWays_189 (by decide) ?_
              refine K_iand (v := b2i fi) dL_areWays_193 (b2i_and (p := fi) (q := true) |>.trans (by rw [Bool.and_true])) ?_
              refine J_istore dL_areWays_194 (by decide) rfl ?_
              refine J_iinc (v := nI (b + 1)) dL_areWays_196 rfl (nI_succ _).symm (by decide) rfl ?_
              refine J_goto (tgt := 29) dL_areWays_199 (by decide) ?_
              exact ihq (b + 1) _ fi _ (by omega) ⟨fun h b' h1 h2 => by
                by_cases e : b' = b
                · rw [e]; exact hd
                · exact hfi.mp h b' (by omega) h2, fun h => hfi.mpr (fun b' h1 h2 => h b' (by omega) h2)⟩ kp hX hM
            | some c =>
              have hc := dS_le hW (show b < sNb (gS G) by omega) hd
              refine J_iload dL_areWays_169 rfl ?_
              refine J_iload dL_areWays_171 rfl ?_
              refine J_iload dL_areWays_173 rfl ?_
              refine J_icmp_ge (tgt := 188) dL_areWays_175 (by decide) (fun h => absurd ((nI_leI (by omega) (by omega)).mp h) (by omega)) (fun h175 => ?_)
              refine J_aload_n dL_areWays_178 rfl rfl ?_
              refine J_iload dL_areWays_179 rfl ?_
              refine K_row dL_areWays_181 hM (by omega) (by omega) ?_
              refine J_iload dL_areWays_182 rfl ?_
              refine K_way (v := nI c) dL_areWays_184 hM (by omega) (by omega) (by omega) (by omega) (oV_s hd) ?_
              refine J_if_ge (tgt := 192) dL_areWays_185 (by decide) (fun h185 => ?_) (fun h => absurd h (fun q => q (nI_pos' (by omega))))
              refine J_iconst (v := nI 0) dL_areWays_192 (by decide) ?_
              refine K_iand (v := b2i false) dL_areWays_193 (b2i_and (p := fi) (q := false) |>.trans (by rw [Bool.and_false])) ?_
              refine J_istore dL_areWays_194 (by decide) rfl ?_
              refine J_iinc (v := nI (b + 1)) dL_areWays_196 rfl (nI_succ _).symm (by decide) rfl ?_
              refine J_goto (tgt := 29) dL_areWays_199 (by decide) ?_
              exact ihq (b + 1) _ false _ (by omega) ⟨fun h => (by cases h), fun h => by
                have := h b (by omega) hba
                rw [hd] at this
                cases this⟩ kp hX hM
          · 
            refine J_iload dL_areWays_169 rfl ?_
            refine J_iload dL_areWays_171 rfl ?_
            refine J_iload dL_areWays_173 rfl ?_
            refine J_icmp_ge (tgt := 188) dL_areWays_175 (by decide) (fun h175 => ?_) (fun h => absurd ((nI_leI (by omega) (by omega)).mpr (by omega)) h)
            refine J_iconst (v := nI 1) dL_areWays_188 (by decide) ?_
            refine J_goto (tgt := 193) dL_areWays_189 (by decide) ?_
            refine K_iand (v := b2i fi) dL_areWays_193 (b2i_and (p := fi) (q := true) |>.trans (by rw [Bool.and_true])) ?_
            refine J_istore dL_areWays_194 (by decide) rfl ?_
            refine J_iinc (v := nI (b + 1)) dL_areWays_196 rfl (nI_succ _).symm (by decide) rfl ?_
            refine J_goto (tgt := 29) dL_areWays_199 (by decide) ?_
            exact ihq (b + 1) _ fi _ (by omega) ⟨fun h b' h1 h2 => hfi.mp h b' (by omega) h2, fun h => hfi.mpr (fun b' h1 h2 => h b' (by omega) h2)⟩ kp hX hM
        clear ih ihq
        refine J.widen (kb' := (6 * q + (90 * m + B)) + 6) (sb' := 6 * (6 * q + (90 * m + B)) + 36) (by omega) (by omega) ?_
        refine J_iload dL_areWays_29 rfl ?_
        refine J_iload_n dL_areWays_31 rfl rfl ?_
        refine J_icmp_ge (tgt := 202) dL_areWays_32 (by decide) (fun h => absurd ((nI_leI (by omega) (by omega)).mp h) (by omega)) (fun h32 => ?_)
        refine J_aload_n dL_areWays_35 rfl rfl ?_
        refine J_iload dL_areWays_36 rfl ?_
        refine K_row dL_areWays_38 hM (by omega) (by omega) ?_
        refine J_iload dL_areWays_39 rfl ?_
        refine J_aload_n dL_areWays_41 rfl rfl ?_
        refine J_iload dL_areWays_42 rfl ?_
        refine J_iload dL_areWays_44 rfl ?_
        refine K_h (v := oV (dS (gS G) a b)) (kb := 6 * q + (90 * m + B) + 5) (sb := 6 * (6 * q + (90 * m + B)) + 30) dL_areWays_46 rfl YL_distance kL_317 (h_distance hX (by omega) (by omega)) rfl rfl rfl (Nat.le_of_ble_eq_true rfl) (by decide) (fun w2 k2 hX => ?_)
        have kp := kp.tr k2
        have hM := hM.kp k2 hr
        refine K_wput dL_areWays_49 hM (by omega) (by omega) (by omega) (fun w9 hM u9 => ?_)
        have kp : KP w w9 x := fun c hc hc2 => (u9 c (by have := hlo c hc2; omega)).trans (kp c hc hc2)
        have hX : RepX w9 x G := hX.kp (fun c h1 h2 => u9 c (by omega))
        have hsy : sLk (gS G) a b = sLk (gS G) b a := by
          cases h1 : sLk (gS G) a b with
          | true => exact (wf_sym hW a b h1).symm
          | false =>
            cases h2 : sLk (gS G) b a with
            | false => rfl
            | true => rw [wf_sym hW b a h2] at h1; cases h1
        by_cases hab : a = b
        · have hd : dS (gS G) a b = some 0 := by rw [hab]; exact dS_self _ _
          have hl : sLk (gS G) a b = false := by
            cases h1 : sLk (gS G) a b with
            | false => rfl
            | true => exact absurd hab (hW.2.2.2.1 _ _ h1).2.2.1
          refine J_aload_n dL_areWays_50 rfl rfl ?_
          refine J_iload dL_areWays_51 rfl ?_
          refine J_iload dL_areWays_53 rfl ?_
          refine K_h (v := nI 0) (kb := 6 * q + (90 * m + B) + 4) (sb := 6 * (6 * q + (90 * m + B)) + 24) dL_areWays_55 rfl YL_distanceByRounds kL_319 (h_distanceByRounds hX (by omega) (by omega)) (oV_s hd) rfl rfl (Nat.le_of_ble_eq_true rfl) (by decide) (fun w11 k11 hX => ?_)
          have kp := kp.tr k11
          have hM := hM.kp k11 hr
          refine J_aload_n dL_areWays_58 rfl rfl ?_
          refine J_iload dL_areWays_59 rfl ?_
          refine K_row dL_areWays_61 hM (by omega) (by omega) ?_
          refine J_iload dL_areWays_62 rfl ?_
          refine K_way (v := nI 0) dL_areWays_64 hM (by omega) (by omega) (by omega) (by omega) (oV_s hd) ?_
          refine J_icmp_ne (tgt := 121) dL_areWays_65 (by decide) (fun h => absurd h (fun q => q rfl)) (fun h65 => ?_)
          refine J_iload dL_areWays_68 rfl ?_
          refine J_iload dL_areWays_70 rfl ?_
          refine J_icmp_ne (tgt := 79) dL_areWays_72 (by decide) (fun h => absurd ((nI_eq (by omega) (by omega)).mpr (by omega)) h) (fun h72 => ?_)
          refine J_iconst (v := nI 1) dL_areWays_75 (by decide) ?_
          refine J_goto (tgt := 80) dL_areWays_76 (by decide) ?_
          refine J_aload_n dL_areWays_80 rfl rfl ?_
          refine J_iload dL_areWays_81 rfl ?_
          refine K_row dL_areWays_83 hM (by omega) (by omega) ?_
          refine J_iload dL_areWays_84 rfl ?_
          refine K_way (v := nI 0) dL_areWays_86 hM (by omega) (by omega) (by omega) (by omega) (oV_s hd) ?_
          refine J_if_ne (tgt := 94) dL_areWays_87 (by decide) (fun h => absurd h (by decide)) (fun h87 => ?_)
          refine J_iconst (v := nI 1) dL_areWays_90 (by decide) ?_
          refine J_goto (tgt := 95) dL_areWays_91 (by decide) ?_
          refine J_icmp_ne (tgt := 121) dL_areWays_95 (by decide) (fun h => absurd h (by decide)) (fun h95 => ?_)
          refine J_aload_n dL_areWays_98 rfl rfl ?_
          refine J_iload dL_areWays_99 rfl ?_
          refine J_iload dL_areWays_101 rfl ?_
          refine K_h (v := nI 0) (kb := 6 * q + (90 * m + B) + 3) (sb := 6 * (6 * q + (90 * m + B)) + 18) dL_areWays_103 rfl YL_areLinked kL_301 (h_areLinked hX (by omega) (by omega)) (b2i_f hl) rfl rfl (Nat.le_of_ble_eq_true rfl) (by decide) (fun w12 k12 hX => ?_)
          have kp := kp.tr k12
          have hM := hM.kp k12 hr
          refine J_aload_n dL_areWays_106 rfl rfl ?_
          refine J_iload dL_areWays_107 rfl ?_
          refine J_iload dL_areWays_109 rfl ?_
          refine K_h (v := nI 0) (kb := 6 * q + (90 * m + B) + 2) (sb := 6 * (6 * q + (90 * m + B)) + 12) dL_areWays_111 rfl YL_areLinked kL_301 (h_areLinked hX (by omega) (by omega)) (b2i_f (hsy ▸ hl)) rfl rfl (Nat.le_of_ble_eq_true rfl) (by decide) (fun w13 k13 hX => ?_)
          have kp := kp.tr k13
          have hM := hM.kp k13 hr
          refine J_icmp_ne (tgt := 121) dL_areWays_114 (by decide) (fun h => absurd h (by decide)) (fun h114 => ?_)
          refine J_iconst (v := nI 1) dL_areWays_117 (by decide) ?_
          refine J_goto (tgt := 122) dL_areWays_118 (by decide) ?_
          refine J_istore dL_areWays_122 (by decide) rfl ?_
          refine J_iload dL_areWays_124 rfl ?_
          refine J_if_eq (tgt := 167) dL_areWays_126 (by decide) (fun h => absurd h (by decide)) (fun h126 => ?_)
          refine J_aload_n dL_areWays_129 rfl rfl ?_
          refine J_iload dL_areWays_130 rfl ?_
          refine J_iload dL_areWays_132 rfl ?_
          refine K_h (v := nI 0) (kb := 6 * q + (90 * m + B) + 1) (sb := 6 * (6 * q + (90 * m + B)) + 6) dL_areWays_134 rfl YL_areLinked kL_301 (h_areLinked hX (by omega) (by omega)) (b2i_f hl) rfl rfl (Nat.le_of_ble_eq_true rfl) (by decide) (fun w14 k14 hX => ?_)
          have kp := kp.tr k14
          have hM := hM.kp k14 hr
          refine J_iconst (v := nI 1) dL_areWays_137 (by decide) ?_
          refine J_icmp_ne (tgt := 169) dL_areWays_138 (by decide) (fun h138 => ?_) (fun h => absurd h (by decide))
          exact J.widen (by omega) (by omega) (fin _ kp hX hM)
        · cases hd : dS (gS G) a b with
          | none =>
            have hl : sLk (gS G) a b = false := by
              cases h1 : sLk (gS G) a b with
              | false => rfl
              | true =>
                obtain ⟨c, h2, -⟩ := dS_link h1
                rw [hd] at h2
                cases h2
            refine J_aload_n dL_areWays_50 rfl rfl ?_
            refine J_iload dL_areWays_51 rfl ?_
            refine J_iload dL_areWays_53 rfl ?_
            refine K_h (v := (-75)) (kb := 6 * q + (90 * m + B) + 4) (sb := 6 * (6 * q + (90 * m + B)) + 24) dL_areWays_55 rfl YL_distanceByRounds kL_319 (h_distanceByRounds hX (by omega) (by omega)) (oV_n hd) rfl rfl (Nat.le_of_ble_eq_true rfl) (by decide) (fun w11 k11 hX => ?_)
            have kp := kp.tr k11
            have hM := hM.kp k11 hr
            refine J_aload_n dL_areWays_58 rfl rfl ?_
            refine J_iload dL_areWays_59 rfl ?_
            refine K_row dL_areWays_61 hM (by omega) (by omega) ?_
            refine J_iload dL_areWays_62 rfl ?_
            refine K_way (v := (-75)) dL_areWays_64 hM (by omega) (by omega) (by omega) (by omega) (oV_n hd) ?_
            refine J_icmp_ne (tgt := 121) dL_areWays_65 (by decide) (fun h => absurd h (fun q => q rfl)) (fun h65 => ?_)
            refine J_iload dL_areWays_68 rfl ?_
            refine J_iload dL_areWays_70 rfl ?_
            refine J_icmp_ne (tgt := 79) dL_areWays_72 (by decide) (fun h72 => ?_) (fun h => absurd ((nI_eq (by omega) (by omega)).mp h) (by omega))
            refine J_iconst (v := nI 0) dL_areWays_79 (by decide) ?_
            refine J_aload_n dL_areWays_80 rfl rfl ?_
            refine J_iload dL_areWays_81 rfl ?_
            refine K_row dL_areWays_83 hM (by omega) (by omega) ?_
            refine J_iload dL_areWays_84 rfl ?_
            refine K_way (v := (-75)) dL_areWays_86 hM (by omega) (by omega) (by omega) (by omega) (oV_n hd) ?_
            refine J_if_ne (tgt := 94) dL_areWays_87 (by decide) (fun h87 => ?_) (fun h => absurd h (by decide))
            refine J_iconst (v := nI 0) dL_areWays_94 (by decide) ?_
            refine J_icmp_ne (tgt := 121) dL_areWays_95 (by decide) (fun h => absurd h (by decide)) (fun h95 => ?_)
            refine J_aload_n dL_areWays_98 rfl rfl ?_
            refine J_iload dL_areWays_99 rfl ?_
            refine J_iload dL_areWays_101 rfl ?_
            refine K_h (v := nI 0) (kb := 6 * q + (90 * m + B) + 3) (sb := 6 * (6 * q + (90 * m + B)) + 18) dL_areWays_103 rfl YL_areLinked kL_301 (h_areLinked hX (by omega) (by omega)) (b2i_f hl) rfl rfl (Nat.le_of_ble_eq_true rfl) (by decide) (fun w12 k12 hX => ?_)
            have kp := kp.tr k12
            have hM := hM.kp k12 hr
            refine J_aload_n dL_areWays_106 rfl rfl ?_
            refine J_iload dL_areWays_107 rfl ?_
            refine J_iload dL_areWays_109 rfl ?_
            refine K_h (v := nI 0) (kb := 6 * q + (90 * m + B) + 2) (sb := 6 * (6 * q + (90 * m + B)) + 12) dL_areWays_111 rfl YL_areLinked kL_301 (h_areLinked hX (by omega) (by omega)) (b2i_f (hsy ▸ hl)) rfl rfl (Nat.le_of_ble_eq_true rfl) (by decide) (fun w13 k13 hX => ?_)
            have kp := kp.tr k13
            have hM := hM.kp k13 hr
            refine J_icmp_ne (tgt := 121) dL_areWays_114 (by decide) (fun h => absurd h (by decide)) (fun h114 => ?_)
            refine J_iconst (v := nI 1) dL_areWays_117 (by decide) ?_
            refine J_goto (tgt := 122) dL_areWays_118 (by decide) ?_
            refine J_istore dL_areWays_122 (by decide) rfl ?_
            refine J_iload dL_areWays_124 rfl ?_
            refine J_if_eq (tgt := 167) dL_areWays_126 (by decide) (fun h => absurd h (by decide)) (fun h126 => ?_)
            refine J_aload_n dL_areWays_129 rfl rfl ?_
            refine J_iload dL_areWays_130 rfl ?_
            refine J_iload dL_areWays_132 rfl ?_
            refine K_h (v := nI 0) (kb := 6 * q + (90 * m + B) + 1) (sb := 6 * (6 * q + (90 * m + B)) + 6) dL_areWays_134 rfl YL_areLinked kL_301 (h_areLinked hX (by omega) (by omega)) (b2i_f hl) rfl rfl (Nat.le_of_ble_eq_true rfl) (by decide) (fun w14 k14 hX => ?_)
            have kp := kp.tr k14
            have hM := hM.kp k14 hr
            refine J_iconst (v := nI 1) dL_areWays_137 (by decide) ?_
            refine J_icmp_ne (tgt := 169) dL_areWays_138 (by decide) (fun h138 => ?_) (fun h => absurd h (by decide))
            exact J.widen (by omega) (by omega) (fin _ kp hX hM)
          | some c =>
            have hc := dS_le hW (show b < sNb (gS G) by omega) hd
            have hc1 := dS_pos hW hab hd
            cases hl : sLk (gS G) a b with
            | true =>
              have hlen := hW.2.1 b (by omega)
              have hcl : c ≤ sLen (gS G) b := by
                obtain ⟨c2, h2, h3⟩ := dS_link hl
                rw [hd] at h2
                cases h2
                exact h3
              refine J_aload_n dL_areWays_50 rfl rfl ?_
              refine J_iload dL_areWays_51 rfl ?_
              refine J_iload dL_areWays_53 rfl ?_
              refine K_h (v := nI c) (kb := 6 * q + (90 * m + B) + 4) (sb := 6 * (6 * q + (90 * m + B)) + 24) dL_areWays_55 rfl YL_distanceByRounds kL_319 (h_distanceByRounds hX (by omega) (by omega)) (oV_s hd) rfl rfl (Nat.le_of_ble_eq_true rfl) (by decide) (fun w11 k11 hX => ?_)
              have kp := kp.tr k11
              have hM := hM.kp k11 hr
              refine J_aload_n dL_areWays_58 rfl rfl ?_
              refine J_iload dL_areWays_59 rfl ?_
              refine K_row dL_areWays_61 hM (by omega) (by omega) ?_
              refine J_iload dL_areWays_62 rfl ?_
              refine K_way (v := nI c) dL_areWays_64 hM (by omega) (by omega) (by omega) (by omega) (oV_s hd) ?_
              refine J_icmp_ne (tgt := 121) dL_areWays_65 (by decide) (fun h => absurd h (fun q => q rfl)) (fun h65 => ?_)
              refine J_iload dL_areWays_68 rfl ?_
              refine J_iload dL_areWays_70 rfl ?_
              refine J_icmp_ne (tgt := 79) dL_areWays_72 (by decide) (fun h72 => ?_) (fun h => absurd ((nI_eq (by omega) (by omega)).mp h) (by omega))
              refine J_iconst (v := nI 0) dL_areWays_79 (by decide) ?_
              refine J_aload_n dL_areWays_80 rfl rfl ?_
              refine J_iload dL_areWays_81 rfl ?_
              refine K_row dL_areWays_83 hM (by omega) (by omega) ?_
              refine J_iload dL_areWays_84 rfl ?_
              refine K_way (v := nI c) dL_areWays_86 hM (by omega) (by omega) (by omega) (by omega) (oV_s hd) ?_
              refine J_if_ne (tgt := 94) dL_areWays_87 (by decide) (fun h87 => ?_) (fun h => absurd h (nI_ne0 (by omega) (by omega)))
              refine J_iconst (v := nI 0) dL_areWays_94 (by decide) ?_
              refine J_icmp_ne (tgt := 121) dL_areWays_95 (by decide) (fun h => absurd h (by decide)) (fun h95 => ?_)
              refine J_aload_n dL_areWays_98 rfl rfl ?_
              refine J_iload dL_areWays_99 rfl ?_
              refine J_iload dL_areWays_101 rfl ?_
              refine K_h (v := nI 1) (kb := 6 * q + (90 * m + B) + 3) (sb := 6 * (6 * q + (90 * m + B)) + 18) dL_areWays_103 rfl YL_areLinked kL_301 (h_areLinked hX (by omega) (by omega)) (b2i_t hl) rfl rfl (Nat.le_of_ble_eq_true rfl) (by decide) (fun w12 k12 hX => ?_)
              have kp := kp.tr k12
              have hM := hM.kp k12 hr
              refine J_aload_n dL_areWays_106 rfl rfl ?_
              refine J_iload dL_areWays_107 rfl ?_
              refine J_iload dL_areWays_109 rfl ?_
              refine K_h (v := nI 1) (kb := 6 * q + (90 * m + B) + 2) (sb := 6 * (6 * q + (90 * m + B)) + 12) dL_areWays_111 rfl YL_areLinked kL_301 (h_areLinked hX (by omega) (by omega)) (b2i_t (hsy ▸ hl)) rfl rfl (Nat.le_of_ble_eq_true rfl) (by decide) (fun w13 k13 hX => ?_)
              have kp := kp.tr k13
              have hM := hM.kp k13 hr
              refine J_icmp_ne (tgt := 121) dL_areWays_114 (by decide) (fun h => absurd h (by decide)) (fun h114 => ?_)
              refine J_iconst (v := nI 1) dL_areWays_117 (by decide) ?_
              refine J_goto (tgt := 122) dL_areWays_118 (by decide) ?_
              refine J_istore dL_areWays_122 (by decide) rfl ?_
              refine J_iload dL_areWays_124 rfl ?_
              refine J_if_eq (tgt := 167) dL_areWays_126 (by decide) (fun h => absurd h (by decide)) (fun h126 => ?_)
              refine J_aload_n dL_areWays_129 rfl rfl ?_
              refine J_iload dL_areWays_130 rfl ?_
              refine J_iload dL_areWays_132 rfl ?_
              refine K_h (v := nI 1) (kb := 6 * q + (90 * m + B) + 1) (sb := 6 * (6 * q + (90 * m + B)) + 6) dL_areWays_134 rfl YL_areLinked kL_301 (h_areLinked hX (by omega) (by omega)) (b2i_t hl) rfl rfl (Nat.le_of_ble_eq_true rfl) (by decide) (fun w14 k14 hX => ?_)
              have kp := kp.tr k14
              have hM := hM.kp k14 hr
              refine J_iconst (v := nI 1) dL_areWays_137 (by decide) ?_
              refine J_icmp_ne (tgt := 169) dL_areWays_138 (by decide) (fun h => absurd h (by decide)) (fun h138 => ?_)
              refine J_aload_n dL_areWays_141 rfl rfl ?_
              refine J_iload dL_areWays_142 rfl ?_
              refine K_row dL_areWays_144 hM (by omega) (by omega) ?_
              refine J_iload dL_areWays_145 rfl ?_
              refine K_way (v := nI c) dL_areWays_147 hM (by omega) (by omega) (by omega) (by omega) (oV_s hd) ?_
              refine J_if_lt (tgt := 167) dL_areWays_148 (by decide) (fun h => absurd h (nI_pos (by omega))) (fun h148 => ?_)
              refine J_aload_n dL_areWays_151 rfl rfl ?_
              refine J_iload dL_areWays_152 rfl ?_
              refine K_row dL_areWays_154 hM (by omega) (by omega) ?_
              refine J_iload dL_areWays_155 rfl ?_
              refine K_way (v := nI c) dL_areWays_157 hM (by omega) (by omega) (by omega) (by omega) (oV_s hd) ?_
              refine J_aload_n dL_areWays_158 rfl rfl ?_
              refine J_iload dL_areWays_159 rfl ?_
              refine K_h (v := nI (sLen (gS G) b)) (kb := 6 * q + (90 * m + B) + 0) (sb := 6 * (6 * q + (90 * m + B)) + 0) dL_areWays_161 rfl YL_length kL_291 (h_length hX (by omega)) rfl rfl rfl (Nat.le_of_ble_eq_true rfl) (by decide) (fun w15 k15 hX => ?_)
              have kp := kp.tr k15
              have hM := hM.kp k15 hr
              refine J_icmp_le (tgt := 169) dL_areWays_164 (by decide) (fun h164 => ?_) (fun h => absurd ((nI_leI (by omega) (by omega)).mpr (by omega)) h)
              exact J.widen (by omega) (by omega) (fin _ kp hX hM)
            | false =>
              refine J_aload_n dL_areWays_50 rfl rfl ?_
              refine J_iload dL_areWays_51 rfl ?_
              refine J_iload dL_areWays_53 rfl ?_
              refine K_h (v := nI c) (kb := 6 * q + (90 * m + B) + 4) (sb := 6 * (6 * q + (90 * m + B)) + 24) dL_areWays_55 rfl YL_distanceByRounds kL_319 (h_distanceByRounds hX (by omega) (by omega)) (oV_s hd) rfl rfl (Nat.le_of_ble_eq_true rfl) (by decide) (fun w11 k11 hX => ?_)
              have kp := kp.tr k11
              have hM := hM.kp k11 hr
              refine J_aload_n dL_areWays_58 rfl rfl ?_
              refine J_iload dL_areWays_59 rfl ?_
              refine K_row dL_areWays_61 hM (by omega) (by omega) ?_
              refine J_iload dL_areWays_62 rfl ?_
              refine K_way (v := nI c) dL_areWays_64 hM (by omega) (by omega) (by omega) (by omega) (oV_s hd) ?_
              refine J_icmp_ne (tgt := 121) dL_areWays_65 (by decide) (fun h => absurd h (fun q => q rfl)) (fun h65 => ?_)
              refine J_iload dL_areWays_68 rfl ?_
              refine J_iload dL_areWays_70 rfl ?_
              refine J_icmp_ne (tgt := 79) dL_areWays_72 (by decide) (fun h72 => ?_) (fun h => absurd ((nI_eq (by omega) (by omega)).mp h) (by omega))
              refine J_iconst (v := nI 0) dL_areWays_79 (by decide) ?_
              refine J_aload_n dL_areWays_80 rfl rfl ?_
              refine J_iload dL_areWays_81 rfl ?_
              refine K_row dL_areWays_83 hM (by omega) (by omega) ?_
              refine J_iload dL_areWays_84 rfl ?_
              refine K_way (v := nI c) dL_areWays_86 hM (by omega) (by omega) (by omega) (by omega) (oV_s hd) ?_
              refine J_if_ne (tgt := 94) dL_areWays_87 (by decide) (fun h87 => ?_) (fun h => absurd h (nI_ne0 (by omega) (by omega)))
              refine J_iconst (v := nI 0) dL_areWays_94 (by decide) ?_
              refine J_icmp_ne (tgt := 121) dL_areWays_95 (by decide) (fun h => absurd h (by decide)) (fun h95 => ?_)
              refine J_aload_n dL_areWays_98 rfl rfl ?_
              refine J_iload dL_areWays_99 rfl ?_
              refine J_iload dL_areWays_101 rfl ?_
              refine K_h (v := nI 0) (kb := 6 * q + (90 * m + B) + 3) (sb := 6 * (6 * q + (90 * m + B)) + 18) dL_areWays_103 rfl YL_areLinked kL_301 (h_areLinked hX (by omega) (by omega)) (b2i_f hl) rfl rfl (Nat.le_of_ble_eq_true rfl) (by decide) (fun w12 k12 hX => ?_)
              have kp := kp.tr k12
              have hM := hM.kp k12 hr
              refine J_aload_n dL_areWays_106 rfl rfl ?_
              refine J_iload dL_areWays_107 rfl ?_
              refine J_iload dL_areWays_109 rfl ?_
              refine K_h (v := nI 0) (kb := 6 * q + (90 * m + B) + 2) (sb := 6 * (6 * q + (90 * m + B)) + 12) dL_areWays_111 rfl YL_areLinked kL_301 (h_areLinked hX (by omega) (by omega)) (b2i_f (hsy ▸ hl)) rfl rfl (Nat.le_of_ble_eq_true rfl) (by decide) (fun w13 k13 hX => ?_)
              have kp := kp.tr k13
              have hM := hM.kp k13 hr
              refine J_icmp_ne (tgt := 121) dL_areWays_114 (by decide) (fun h => absurd h (by decide)) (fun h114 => ?_)
              refine J_iconst (v := nI 1) dL_areWays_117 (by decide) ?_
              refine J_goto (tgt := 122) dL_areWays_118 (by decide) ?_
              refine J_istore dL_areWays_122 (by decide) rfl ?_
              refine J_iload dL_areWays_124 rfl ?_
              refine J_if_eq (tgt := 167) dL_areWays_126 (by decide) (fun h => absurd h (by decide)) (fun h126 => ?_)
              refine J_aload_n dL_areWays_129 rfl rfl ?_
              refine J_iload dL_areWays_130 rfl ?_
              refine J_iload dL_areWays_132 rfl ?_
              refine K_h (v := nI 0) (kb := 6 * q + (90 * m + B) + 1) (sb := 6 * (6 * q + (90 * m + B)) + 6) dL_areWays_134 rfl YL_areLinked kL_301 (h_areLinked hX (by omega) (by omega)) (b2i_f hl) rfl rfl (Nat.le_of_ble_eq_true rfl) (by decide) (fun w14 k14 hX => ?_)
              have kp := kp.tr k14
              have hM := hM.kp k14 hr
              refine J_iconst (v := nI 1) dL_areWays_137 (by decide) ?_
              refine J_icmp_ne (tgt := 169) dL_areWays_138 (by decide) (fun h138 => ?_) (fun h => absurd h (by decide))
              exact J.widen (by omega) (by omega) (fin _ kp hX hM)
    refine J.widen (kb' := (6 * n + (90 * m + B)) + 0) (sb' := 6 * (6 * n + (90 * m + B)) + 0) (by omega) (by omega) ?_
    refine J_iload dL_areWays_17 rfl ?_
    refine J_iload_n dL_areWays_19 rfl rfl ?_
    refine J_icmp_ge (tgt := 221) dL_areWays_20 (by decide) (fun h => absurd ((nI_leI (by omega) (by omega)).mp h) (by omega)) (fun h20 => ?_)
    refine J_iconst (v := nI 1) dL_areWays_23 (by decide) ?_
    refine J_istore dL_areWays_24 (by decide) rfl ?_
    refine J_iconst (v := nI 0) dL_areWays_26 (by decide) ?_
    refine J_istore dL_areWays_27 (by decide) rfl ?_
    exact inner n 0 _ true _ (by omega) ⟨fun _ b' h => by omega, fun _ => rfl⟩ kp hX hM

end JWAYS

/-! THE READER OF COMMANDS: whole commands -/
section JREAD2
theorem mtA_t {R : Bool × Nat × List Nat} (h : R.1 = true) : mtA R = nI R.2.1 := if_pos h
theorem mtA_f {R : Bool × Nat × List Nat} (h : R.1 = false) : mtA R = nI R.2.1 ^^^ (-1) := if_neg (by rw [h]; decide)
theorem mtA_lt {R : Bool × Nat × List Nat} (h : R.2.1 < 200) : mtA R < 0 ↔ R.1 = false := by
  cases e : R.1 with
  | true => rw [mtA_t e]; exact ⟨fun q => absurd q (nI_pos (by omega)), fun q => by cases q⟩
  | false => rw [mtA_f e]; exact ⟨fun _ => rfl, fun _ => (xor_m1 _ h).1⟩
theorem nI_max {a b : Nat} (ha : a < 2 ^ 31) (hb : b < 2 ^ 31) : (if nI a < nI b then nI b else nI a) = nI (max a b) := by
  by_cases h : a < b
  · rw [if_pos (nI_lt h hb), Nat.max_eq_right (by omega)]
  · rw [if_neg (nI_nlt (by omega) ha), Nat.max_eq_left (by omega)]
theorem pOne_of {t : Nat → Nat} {n p j : Nat} (hj : j < 9) (h : (mtc t n (FM j) p []).1 = true) : pOne t n p = (some (j, (mtc t n (FM j) p []).2.2), (mtc t n (FM j) p []).2.1) := by
  unfold pOne
  cases e : wh t n p with
  | none => rw [wh_A e j hj] at h; cases h
  | some k =>
    by_cases q : j = k
    · subst q
      simp only
      rw [if_pos h]
    · obtain ⟨q', e1, -⟩ := (wh_B e).2 j hj q
      rw [e1] at h
      cases h
theorem pOne_all {t : Nat → Nat} {n p F : Nat} (h : ∀ i, i < 9 → (mtc t n (FM i) p []).1 = false ∧ (mtc t n (FM i) p []).2.1 ≤ F) (hp : p ≤ F) (hF : F = p ∨ ∃ i, i < 9 ∧ (mtc t n (FM i) p []).2.1 = F) : pOne t n p = (none, F) := by
  unfold pOne
  cases e : wh t n p with
  | none =>
    rcases hF with q | ⟨i, h9, q⟩
    · rw [q]
    · rw [wh_A e i h9] at q
      have q : p = F := q
      rw [q]
  | some k =>
    obtain ⟨h9, hB⟩ := wh_B e
    simp only
    rw [if_neg (by rw [(h k h9).1]; decide)]
    have a1 := (h k h9).2
    have a2 := mt_ge (t := t) (n := n) (FM k) p []
    have : (mtc t n (FM k) p []).2.1 = F := by
      rcases hF with q | ⟨i, hi, q⟩
      · omega
      · by_cases z : i = k
        · rw [← z]; exact q
        · obtain ⟨q', e1, e2⟩ := hB i hi z
          rw [e1] at q
          have q : q' = F := q
          omega
    rw [this]
theorem SFT_cm : ((.object "SofaRailway$Command" : FieldType), 0, 9, (fun j => (.ref (10 + j) : Value))) ∈ SFT := List.mem_append_left _ (List.mem_cons_self)
theorem c_X2_closeCommand {w : Wd} {c : Nat} {t : Nat → Nat} {n p : Nat} {e : Bool} {cm : Nat} {x1 x2 : Int32} (hD : RepD w c t n p e cm x1 x2) {q : Nat} (hq : q ≤ n) : MC 2 mX2_closeCommand 0 0 [.ref c, .int (nI q)] w (RP (fun v w' => Fr w w' c (c + 1) ∧ (if n ≤ q then v = some (.int 1) ∧ RepD w' c t n q true cm x1 x2 else if t q = 59 then v = some (.int 1) ∧ RepD w' c t n (q + 1) e cm x1 x2 else v = some (.int 0) ∧ RepD w' c t n q e cm x1 x2))) := by
  obtain ⟨f, dO, dA, dn, hf⟩ := id hD
  refine MC_j pnX2 rfl rfl rfl (Or.inr (fun E w h => RP_no E w h)) ?_
  show J 2 mX2_closeCommand 0 [some (.ref c), some (.int (nI q))] [] w 0 0 _
  refine J_aload_n dX2_closeCommand_0 rfl rfl ?_
  refine J_iload_n dX2_closeCommand_1 rfl rfl ?_
  refine K_putI dX2_closeCommand_2 fX2_19 (Or.inl rfl) dO (Nat.le_of_ble_eq_true rfl) (fun w1 u1 => ?_)
  have dA := (u1.2.1 _ (by omega)).trans dA
  have dO := u1.1
  have dO : w1.1 c = .inr (2, [.ref (c + 1), .int (nI n), .int (nI q), .int (b2i e), .ref cm, .int x1, .int x2]) := dO
  refine J_iload_n dX2_closeCommand_5 rfl rfl ?_
  refine J_aload_n dX2_closeCommand_6 rfl rfl ?_
  refine J_getfield dX2_closeCommand_7 fX2_15 dO rfl ?_
  refine J_icmp_lt (tgt := 20) dX2_closeCommand_10 (by decide) (fun h10 => ?_) (fun h10 => ?_)
  · skip
    have h10 := (nI_ltI (by omega) (by omega)).mp h10
    refine J_aload_n dX2_closeCommand_20 rfl rfl ?_
    refine J_getfield dX2_closeCommand_21 fX2_9 dO rfl ?_
    refine J_iload_n dX2_closeCommand_24 rfl rfl ?_
    have q25a := (hf q (by omega)).2
    refine K_cald (v := nI (t q)) dX2_closeCommand_25 dA (by omega) (by decide) (hf _ (by omega)).1 ?_
    refine J_bipush (v := nI 59) dX2_closeCommand_26 (by decide) ?_
    refine J_icmp_eq (tgt := 33) dX2_closeCommand_28 (by decide) (fun h28 => ?_) (fun h28 => ?_)
    · skip
      have h28 := (nI_eq (by omega) (by omega)).mp h28
      refine J_aload_n dX2_closeCommand_33 rfl rfl ?_
      refine J_dup dX2_closeCommand_34 rfl ?_
      refine J_getfield dX2_closeCommand_35 fX2_19 dO rfl ?_
      refine J_iconst (v := nI 1) dX2_closeCommand_38 (by decide) ?_
      refine K_iadd (v := nI (q + 1)) dX2_closeCommand_39 (nI_add _ _) ?_
      refine K_putI dX2_closeCommand_40 fX2_19 (Or.inl rfl) dO (Nat.le_of_ble_eq_true rfl) (fun w2 u2 => ?_)
      have dA := (u2.2.1 _ (by omega)).trans dA
      have dO := u2.1
      have dO : w2.1 c = .inr (2, [.ref (c + 1), .int (nI n), .int (nI (q + 1)), .int (b2i e), .ref cm, .int x1, .int x2]) := dO
      refine J_iconst (v := nI 1) dX2_closeCommand_43 (by decide) ?_
      exact J_ireturn dX2_closeCommand_44 rfl rfl (RP_i ⟨(((Fr.rf _ _ _).up u1 (by omega) (by omega)).up u2 (by omega) (by omega)), by rw [if_neg (by omega), if_pos (by omega)]; exact ⟨rfl, f, dO, dA, dn, hf⟩⟩)
    · skip
      have h28 := mt (nI_eq (by omega) (by omega)).mpr h28
      refine J_iconst (v := nI 0) dX2_closeCommand_31 (by decide) ?_
      exact J_ireturn dX2_closeCommand_32 rfl rfl (RP_i ⟨((Fr.rf _ _ _).up u1 (by omega) (by omega)), by rw [if_neg (by omega), if_neg (by omega)]; exact ⟨rfl, f, dO, dA, dn, hf⟩⟩)
  · skip
    have h10 := mt (nI_ltI (by omega) (by omega)).mpr h10
    refine J_aload_n dX2_closeCommand_13 rfl rfl ?_
    refine J_iconst (v := nI 1) dX2_closeCommand_14 (by decide) ?_
    refine K_putZ dX2_closeCommand_15 fX2_22 (Or.inl rfl) dO (Nat.le_of_ble_eq_true rfl) (Or.inr rfl) (fun w2 u2 => ?_)
    have dA := (u2.2.1 _ (by omega)).trans dA
    have dO := u2.1
    have dO : w2.1 c = .inr (2, [.ref (c + 1), .int (nI n), .int (nI q), .int (b2i true), .ref cm, .int x1, .int x2]) := dO
    refine J_iconst (v := nI 1) dX2_closeCommand_18 (by decide) ?_
    exact J_ireturn dX2_closeCommand_19 rfl rfl (RP_i ⟨(((Fr.rf _ _ _).up u1 (by omega) (by omega)).up u2 (by omega) (by omega)), by rw [if_pos (by omega)]; exact ⟨rfl, f, dO, dA, dn, hf⟩⟩)

theorem c_X2_readCommandE {w : Wd} {c : Nat} {t : Nat → Nat} {n p : Nat} {cm : Nat} {x1 x2 : Int32} (hD : RepD w c t n p true cm x1 x2) : MC 12 mX2_readCommand 0 0 [.ref c] w (RI (.int 0) w) := by
  obtain ⟨f, dO, dA, dn, hf⟩ := id hD
  refine MC_j pnX2 rfl rfl rfl (Or.inr (fun E w h => by cases h.1)) ?_
  show J 12 mX2_readCommand 0 [some (.ref c), none, none, none, none, none, none] [] w 0 0 _
  refine J_aload_n dX2_readCommand_0 rfl rfl ?_
  refine J_getfield dX2_readCommand_1 fX2_22 dO rfl ?_
  refine J_if_eq (tgt := 9) dX2_readCommand_4 (by decide) (fun h4 => absurd h4 (by decide)) (fun h4 => ?_)
  refine J_iconst (v := nI 0) dX2_readCommand_7 (by decide) ?_
  exact J_ireturn dX2_readCommand_8 rfl rfl ⟨rfl, rfl⟩

def RDQ (w : Wd) (c : Nat) (t : Nat → Nat) (n p : Nat) : Po := RP (fun v w' => Fr w w' c (c + 1) ∧ ∃ y1 y2, (match rdC t n p with | .inl q => v = some (.int 0) ∧ ∃ m', RepD w' c t n q false m' y1 y2 | .inr (k, p', e') => v = some (.int 1) ∧ RepD w' c t n p' e' (10 + k.1) y1 y2 ∧ numsOk k.2 y1 y2))
theorem c_X2_readCommand {w : Wd} {c : Nat} {t : Nat → Nat} {n p : Nat} {cm : Nat} {x1 x2 : Int32} (hD : RepD w c t n p false cm x1 x2) (hp : p ≤ n) : MC 12 mX2_readCommand 0 0 [.ref c] w (RDQ w c t n p) := by
  obtain ⟨f, dO, dA, dn, hf⟩ := id hD
  refine MC_j pnX2 rfl rfl rfl (Or.inr (fun E w h => RP_no E w h)) ?_
  show J 12 mX2_readCommand 0 [some (.ref c), none, none, none, none, none, none] [] w 0 0 _
  have loop : ∀ m j F w1 cm y1 y2 o5 o6, 9 < m + j → j ≤ 9 → p ≤ F → F ≤ n → (∀ i, i < j → (mtc t n (FM i) p []).1 = false ∧ (mtc t n (FM i) p []).2.1 ≤ F) → (F = p ∨ ∃ i, i < j ∧ (mtc t n (FM i) p []).2.1 = F) → Fr w w1 c (c + 1) → RepD w1 c t n p false cm y1 y2 → J 12 mX2_readCommand 24 [some (.ref c), some (.int (nI F)), some (.ref 0), some (.int (nI 9)), some (.int (nI j)), o5, o6] [] w1 0 0 (RDQ w c t n p) := by
    intro m
    induction m with
    | zero => intros; omega
    | succ m ih =>
      intro j F w1 cm y1 y2 o5 o6 q1 q2 hpF hFn hall hF hFr hD1
      obtain ⟨f, dO, dA, dn, hf⟩ := id hD1
      refine J_iload dX2_readCommand_24 rfl ?_
      refine J_iload_n dX2_readCommand_26 rfl rfl ?_
      refine J_icmp_ge (tgt := 84) dX2_readCommand_27 (by decide) (fun h27 => ?_) (fun h27 => ?_)
      · skip
        have h27 := (nI_leI (by omega) (by omega)).mp h27
        have ej : j = 9 := by omega
        refine J_aload_n dX2_readCommand_84 rfl rfl ?_
        refine J_iload_n dX2_readCommand_85 rfl rfl ?_
        refine K_putI dX2_readCommand_86 fX2_19 (Or.inl rfl) dO (Nat.le_of_ble_eq_true rfl) (fun w2 u2 => ?_)
        have dA := (u2.2.1 _ (by omega)).trans dA
        have dO := u2.1
        have dO : w2.1 c = .inr (2, [.ref (c + 1), .int (nI n), .int (nI F), .int (b2i false), .ref cm, .int y1, .int y2]) := dO
        refine J_iconst (v := nI 0) dX2_readCommand_89 (by decide) ?_
        exact J_ireturn dX2_readCommand_90 rfl rfl (RP_i ⟨hFr.up u2 (by omega) (by omega), y1, y2, by
            have hq : rdC t n p = .inl F := by
              unfold rdC
              rw [pOne_all (fun i hi => hall i (by omega)) hpF (by rcases hF with q | ⟨i, hi, q⟩; exact Or.inl q; exact Or.inr ⟨i, by omega, q⟩)]
            rw [hq]
            exact ⟨rfl, cm, f, dO, dA, dn, hf⟩⟩)
      · skip
        have h27 := mt (nI_leI (by omega) (by omega)).mpr h27
        have hRn := mt_le (t := t) (FM j) p [] hp
        have hRp := mt_ge (t := t) (n := n) (FM j) p []
        refine J_aload_n dX2_readCommand_30 rfl rfl ?_
        refine J_iload dX2_readCommand_31 rfl ?_
        refine J_saald dX2_readCommand_33 SFT_cm (by omega) (vp_in_nI (show j < 9 by omega) (by decide)) (by rw [nI_clamp (by omega)]) (sv_r (by omega)) ?_
        refine J_astore dX2_readCommand_34 (by decide) rfl ?_
        refine J_aload_n dX2_readCommand_36 rfl rfl ?_
        refine J_aload dX2_readCommand_37 rfl ?_
        refine J_sgetf dX2_readCommand_39 (SFF_fo (show j < 9 by omega)) (sv_r (by omega)) (by omega) gX2_52 ?_
        refine J_aload_n dX2_readCommand_42 rfl rfl ?_
        refine J_getfield dX2_readCommand_43 fX2_19 dO rfl ?_
        refine K_callVp dX2_readCommand_46 YX2_match kX2_56 (rc_of dO rfl) (c_X2_match hD1 (show j < 9 by omega) hp) rfl rfl (Nat.le_of_ble_eq_true rfl) (by decide) (fun v46 w46 q46 => ?_)
        obtain ⟨rfl, hF46, z1, z2, hD46, hno46⟩ := q46
        obtain ⟨f46, dO, dA, dn, hf⟩ := id hD46
        refine J_istore dX2_readCommand_49 (by decide) rfl ?_
        refine J_iload dX2_readCommand_51 rfl ?_
        refine J_if_lt (tgt := 69) dX2_readCommand_53 (by decide) (fun h53 => ?_) (fun h53 => ?_)
        · skip
          have e53 := (mtA_lt (R := (mtc t n (FM j) p [])) (by omega)).mp h53
          rw [mtA_f e53]
          refine J_iload_n dX2_readCommand_69 rfl rfl ?_
          refine J_iload dX2_readCommand_70 rfl ?_
          refine J_iconst (v := (-1)) dX2_readCommand_72 (by decide) ?_
          refine K_ixor (v := nI (mtc t n (FM j) p []).2.1) dX2_readCommand_73 (xor_m1 _ (by omega)).2 ?_
          refine J_max (v := nI (max F (mtc t n (FM j) p []).2.1)) dX2_readCommand_74 kX2_64 wMath wMax (Nat.le_of_ble_eq_true rfl) (by decide) (nI_max (by omega) (by omega)) ?_
          refine J_istore_n dX2_readCommand_77 rfl (by decide) rfl ?_
          refine J_iinc (v := nI (j + 1)) dX2_readCommand_78 rfl (nI_succ _).symm (by decide) rfl ?_
          refine J_goto (tgt := 24) dX2_readCommand_81 (by decide) ?_
          exact ih (j + 1) (max F (mtc t n (FM j) p []).2.1) _ _ _ _ _ _ (by omega) (by omega) (by omega) (by omega) (fun i hi => by
            by_cases z : i = j
            · subst z; exact ⟨e53, by omega⟩
            · have := hall i (by omega); exact ⟨this.1, by omega⟩) (by
            by_cases z : (mtc t n (FM j) p []).2.1 ≤ F
            · rw [Nat.max_eq_left z]
              rcases hF with q | ⟨i, hi, q⟩
              · exact Or.inl q
              · exact Or.inr ⟨i, by omega, q⟩
            · exact Or.inr ⟨j, by omega, by omega⟩) (hFr.tr hF46 (by omega) (by omega)) hD46
        · skip
          have e53 : (mtc t n (FM j) p []).1 = true := by
            cases z : (mtc t n (FM j) p []).1 with
            | true => rfl
            | false => exact absurd ((mtA_lt (R := (mtc t n (FM j) p [])) (by omega)).mpr z) h53
          rw [mtA_t e53]
          refine J_aload_n dX2_readCommand_56 rfl rfl ?_
          refine J_aload dX2_readCommand_57 rfl ?_
          have hno46 := hno46 e53
          refine K_putR dX2_readCommand_59 fX2_32 (Or.inl rfl) dO (Nat.le_of_ble_eq_true rfl) (by first | exact Or.inl ⟨_, rfl⟩ | exact Or.inr ⟨_, rfl⟩) (fun w2 u2 => ?_)
          have dA := (u2.2.1 _ (by omega)).trans dA
          have dO := u2.1
          have dO : w2.1 c = .inr (2, [.ref (c + 1), .int (nI n), .int (nI p), .int (b2i false), .ref ((10 + j)), .int z1, .int z2]) := dO
          refine J_aload_n dX2_readCommand_62 rfl rfl ?_
          refine J_iload dX2_readCommand_63 rfl ?_
          have hD59 : RepD w2 c t n p false (10 + j) z1 z2 := ⟨f46, dO, dA, dn, hf⟩
          refine K_callVp dX2_readCommand_65 YX2_closeCommand kX2_60 (rc_of dO rfl) (c_X2_closeCommand hD59 (q := (mtc t n (FM j) p []).2.1) (by omega)) rfl rfl (Nat.le_of_ble_eq_true rfl) (by decide) (fun v65 w65 q65 => ?_)
          obtain ⟨hF65, hc65⟩ := q65
          have dA := (hF65.1 _ (by omega)).trans dA
          have hpo := pOne_of (t := t) (n := n) (p := p) (show j < 9 by omega) e53
          split at hc65
          · rename_i g1
            obtain ⟨rfl, hD65⟩ := hc65
            exact J_ireturn dX2_readCommand_68 rfl rfl (RP_i ⟨(((hFr.tr hF46 (by omega) (by omega)).up u2 (by omega) (by omega)).tr hF65 (by omega) (by omega)), z1, z2, by
              rw [show rdC t n p = .inr ((j, (mtc t n (FM j) p []).2.2), (mtc t n (FM j) p []).2.1, true) from by unfold rdC; rw [hpo]; simp only; rw [if_pos g1]]
              exact ⟨rfl, hD65, hno46⟩⟩)
          · rename_i g1
            split at hc65
            · rename_i g2
              obtain ⟨rfl, hD65⟩ := hc65
              exact J_ireturn dX2_readCommand_68 rfl rfl (RP_i ⟨(((hFr.tr hF46 (by omega) (by omega)).up u2 (by omega) (by omega)).tr hF65 (by omega) (by omega)), z1, z2, by
                rw [show rdC t n p = .inr ((j, (mtc t n (FM j) p []).2.2), (mtc t n (FM j) p []).2.1 + 1, false) from by unfold rdC; rw [hpo]; simp only; rw [if_neg g1, if_pos g2]]
                exact ⟨rfl, hD65, hno46⟩⟩)
            · rename_i g2
              obtain ⟨rfl, hD65⟩ := hc65
              exact J_ireturn dX2_readCommand_68 rfl rfl (RP_i ⟨(((hFr.tr hF46 (by omega) (by omega)).up u2 (by omega) (by omega)).tr hF65 (by omega) (by omega)), z1, z2, by
                rw [show rdC t n p = .inl (mtc t n (FM j) p []).2.1 from by unfold rdC; rw [hpo]; simp only; rw [if_neg g1, if_neg g2]]
                exact ⟨rfl, _, hD65⟩⟩)
  refine J_aload_n dX2_readCommand_0 rfl rfl ?_
  refine J_getfield dX2_readCommand_1 fX2_22 dO rfl ?_
  refine J_if_eq (tgt := 9) dX2_readCommand_4 (by decide) (fun h4 => ?_) (fun h4 => absurd rfl h4)
  refine J_aload_n dX2_readCommand_9 rfl rfl ?_
  refine J_getfield dX2_readCommand_10 fX2_19 dO rfl ?_
  refine J_istore_n dX2_readCommand_13 rfl (by decide) rfl ?_
  refine J_getstaticN dX2_readCommand_14 List.mem_cons_self (sv_r (by omega)) List.mem_cons_self ?_
  refine J_astore_n dX2_readCommand_17 rfl (by decide) rfl ?_
  refine J_aload_n dX2_readCommand_18 rfl rfl ?_
  refine J_salen dX2_readCommand_19 (v := nI 9) SFT_cm (by omega) rfl ?_
  refine J_istore_n dX2_readCommand_20 rfl (by decide) rfl ?_
  refine J_iconst (v := nI 0) dX2_readCommand_21 (by decide) ?_
  refine J_istore dX2_readCommand_22 (by decide) rfl ?_
  exact loop 10 0 p w cm x1 x2 none none (by omega) (by omega) (by omega) hp (fun i hi => by omega) (Or.inl rfl) (Fr.rf _ _ _) hD

theorem pAll_e {t : Nat → Nat} {n p q : Nat} (f : Nat) (h : rdC t n p = .inl q) : pAll t n (f + 1) p = ([], some q) := by
  show (match rdC t n p with | .inl q => ([], some q) | .inr (c, _, true) => ([c], none) | .inr (c, p', false) => (c :: (pAll t n f p').1, (pAll t n f p').2)) = _
  rw [h]
theorem pAll_l {t : Nat → Nat} {n p p' : Nat} {c : Nat × List Nat} (f : Nat) (h : rdC t n p = .inr (c, p', true)) : pAll t n (f + 1) p = ([c], none) := by
  show (match rdC t n p with | .inl q => ([], some q) | .inr (c, _, true) => ([c], none) | .inr (c, p', false) => (c :: (pAll t n f p').1, (pAll t n f p').2)) = _
  rw [h]
theorem pAll_c {t : Nat → Nat} {n p p' : Nat} {c : Nat × List Nat} (f : Nat) (h : rdC t n p = .inr (c, p', false)) : pAll t n (f + 1) p = (c :: (pAll t n f p').1, (pAll t n f p').2) := by
  show (match rdC t n p with | .inl q => ([], some q) | .inr (c, _, true) => ([c], none) | .inr (c, p', false) => (c :: (pAll t n f p').1, (pAll t n f p').2)) = _
  rw [h]
theorem pAll_b {t : Nat → Nat} {n : Nat} : ∀ f p, p ≤ n → ∀ q, (pAll t n f p).2 = some q → q ≤ n := by
  intro f
  induction f with
  | zero => intro p hp q h; cases h; exact hp
  | succ f ih =>
    intro p hp q h
    cases e : rdC t n p with
    | inl q' => rw [pAll_e f e] at h; cases h; exact rdC_no hp e
    | inr x =>
      obtain ⟨c, p', b⟩ := x
      have hin := rdC_in hp e
      cases b with
      | true => rw [pAll_l f e] at h; cases h
      | false => rw [pAll_c f e] at h; exact ih p' hin.2.1 q h
theorem c_X2_findError {w : Wd} {c : Nat} {t : Nat → Nat} {n p : Nat} {e : Bool} {cm : Nat} {x1 x2 : Int32} (hD : RepD w c t n p e cm x1 x2) : MC 13 mX2_findError 0 0 [.ref c] w (RP (fun v w' => v = some (.int (oI (pAll t n 61 0).2)) ∧ Fr w w' c (c + 1) ∧ ∃ p' e' m' y1 y2, RepD w' c t n p' e' m' y1 y2)) := by
  obtain ⟨f, dO, dA, dn, hf⟩ := id hD
  refine MC_j pnX2 rfl rfl rfl (Or.inr (fun E w h => RP_no E w h)) ?_
  show J 13 mX2_findError 0 [some (.ref c), none] [] w 0 0 _
  have loop : ∀ m j w1 p e cm y1 y2, 61 < m + j → j ≤ 61 → p ≤ n → (e = false → j ≤ p) → (e = false → (pAll t n (61 - j) p).2 = (pAll t n 61 0).2) → (e = true → (pAll t n 61 0).2 = none) → Fr w w1 c (c + 1) → RepD w1 c t n p e cm y1 y2 → J 13 mX2_findError 6 [some (.ref c), some (.int (nI j))] [] w1 0 0 (RP (fun v w' => v = some (.int (oI (pAll t n 61 0).2)) ∧ Fr w w' c (c + 1) ∧ ∃ p' e' m' y1 y2, RepD w' c t n p' e' m' y1 y2)) := by
    intro m
    induction m with
    | zero => intros; omega
    | succ m ih =>
      intro j w1 p e cm y1 y2 q1 q2 hp hjp hE hE2 hFr hD1
      obtain ⟨f, dO, dA, dn, hf⟩ := id hD1
      refine J_iload_n dX2_findError_6 rfl rfl ?_
      refine J_bipush (v := nI 60) dX2_findError_7 (by decide) ?_
      refine J_icmp_gt (tgt := 37) dX2_findError_9 (by decide) (fun h9 => ?_) (fun h9 => ?_)
      · skip
        have h9 := (nI_ltI (by omega) (by omega)).mp h9
        have ej : j = 61 := by omega
        refine J_iconst (v := (-1)) dX2_findError_37 (by decide) ?_
        exact J_ireturn dX2_findError_38 rfl rfl (RP_i ⟨by rw [hE2 (by cases z : e with | true => rfl | false => have := hjp z; omega)]; rfl, hFr, _, _, _, _, _, hD1⟩)
      · skip
        have h9 := mt (nI_ltI (by omega) (by omega)).mpr h9
        
        refine J_aload_n dX2_findError_12 rfl rfl ?_
        refine J_getfield dX2_findError_13 fX2_22 dO rfl ?_
        refine J_if_ne (tgt := 37) dX2_findError_16 (by decide) (fun h16 => ?_) (fun h16 => ?_)
        · skip
          have e16 : e = true := b2i_ne.mp h16
          refine J_iconst (v := (-1)) dX2_findError_37 (by decide) ?_
          exact J_ireturn dX2_findError_38 rfl rfl (RP_i ⟨by rw [hE2 e16]; rfl, hFr, _, _, _, _, _, hD1⟩)
        · skip
          have e16 : e = false := b2i_eq.mp h16
          refine J_aload_n dX2_findError_19 rfl rfl ?_
          subst e16
          refine K_callVp dX2_findError_20 YX2_readCommand kX2_44 (rc_of dO rfl) (c_X2_readCommand hD1 hp) rfl rfl (Nat.le_of_ble_eq_true rfl) (by decide) (fun v20 w20 q20 => ?_)
          obtain ⟨hF20, z1, z2, h20⟩ := q20
          cases hr : rdC t n p with
          | inl q =>
            rw [hr] at h20
            obtain ⟨rfl, m', hD20⟩ := h20
            obtain ⟨f20, dO, dA, dn2, hf20⟩ := id hD20
            have hq := rdC_no hp hr
            refine J_if_ne (tgt := 31) dX2_findError_23 (by decide) (fun h => absurd rfl h) (fun h => ?_)
            refine J_aload_n dX2_findError_26 rfl rfl ?_
            refine J_getfield dX2_findError_27 fX2_19 dO rfl ?_
            exact J_ireturn dX2_findError_30 rfl rfl (RP_i ⟨by rw [← hE rfl, show 61 - j = (60 - j) + 1 by omega, pAll_e _ hr]; rfl, hFr.tr hF20 (by omega) (by omega), _, _, _, _, _, hD20⟩)
          | inr x =>
            obtain ⟨k, p', e'⟩ := x
            rw [hr] at h20
            obtain ⟨rfl, hD20, hn20⟩ := h20
            have hin := rdC_in hp hr
            refine J_if_ne (tgt := 31) dX2_findError_23 (by decide) (fun h => ?_) (fun h => absurd h (by decide))
            refine J_iinc (v := nI (j + 1)) dX2_findError_31 rfl (nI_succ _).symm (by decide) rfl ?_
            refine J_goto (tgt := 6) dX2_findError_34 (by decide) ?_
            refine ih (j + 1) _ _ _ _ _ _ (by omega) (by omega) hin.2.1 (fun z => ?_) (fun z => ?_) (fun z => ?_) (hFr.tr hF20 (by omega) (by omega)) hD20
            · have := hjp rfl
              omega
            · subst z
              rw [← hE rfl, show 61 - j = (60 - j) + 1 by omega, pAll_c _ hr, show 61 - (j + 1) = 60 - j by omega]
            · subst z
              rw [← hE rfl, show 61 - j = (60 - j) + 1 by omega, pAll_l _ hr]
  refine J_aload_n dX2_findError_0 rfl rfl ?_
  refine K_callVp dX2_findError_1 YX2_rewind kX2_41 (rc_of dO rfl) (c_X2_rewind hD) rfl rfl (Nat.le_of_ble_eq_true rfl) (by decide) (fun v1 w1 q1 => ?_)
  obtain ⟨rfl, hF1, hD1⟩ := q1
  refine J_iconst (v := nI 0) dX2_findError_4 (by decide) ?_
  refine J_istore_n dX2_findError_5 rfl (by decide) rfl ?_
  exact loop 62 0 _ 0 false _ _ _ (by omega) (by omega) (by omega) (fun _ => by omega) (fun _ => rfl) (fun z => by cases z) hF1 hD1

end JREAD2

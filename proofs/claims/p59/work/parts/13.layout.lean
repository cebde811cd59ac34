/-! THE LAYOUT: what is asked of it -/
section JLAYOUT
theorem pnX2 : plainName RX2 = true := by decide +kernel
theorem pnX3 : plainName RX3 = true := by decide +kernel
theorem pnX4 : plainName RX4 = true := by decide +kernel
theorem pnX5 : plainName RX5 = true := by decide +kernel
theorem pnX6 : plainName RX6 = true := by decide +kernel
theorem pnX7 : plainName RX7 = true := by decide +kernel
theorem pnX8 : plainName RX8 = true := by decide +kernel
theorem pnX9 : plainName RX9 = true := by decide +kernel
theorem pnJ0 : plainName RJ0 = true := by decide +kernel
theorem pnJ1 : plainName RJ1 = true := by decide +kernel
theorem pnJ3 : plainName RJ3 = true := by decide +kernel
theorem pnJ6 : plainName RJ6 = true := by decide +kernel
theorem pnJx29ce0 : plainName RJx29ce0 = true := by decide +kernel
theorem pnL : plainName RL = true := by decide +kernel
theorem MC_j {d : Nat} {mi : MI} {kb sb : Nat} {av : List Value} {w : Wd} {Q : Po} (hy : plainName mi.1.cls = true) (hh : mi.2.2.2.2 = []) (hcat : av.all (fun v => v.category == 1) = true) (hlen : Nat.ble av.length mi.2.2.1 = true) (hd : 6 ≤ d ∨ ∀ E w, ¬ Q (.inr E) w) (h : J d mi 0 (lc0 av mi.2.2.1) [] w kb sb Q) : MC d mi kb sb av w Q :=
  MC_of hy hh (fun v hv => by simpa using List.all_eq_true.mp hcat v hv) (Nat.le_of_ble_eq_true hlen) hd h
theorem c_X8_has (w : Wd) (x : Int32) {k : Nat} (hk : k < 32) : MC 2 mX8_has 0 0 [.int x, .int (nI k)] w (RI (.int (b2i (x.toBitVec.getLsbD k))) w) := by
  refine MC_j pnX8 rfl rfl rfl (Or.inr (fun E w h => by cases h.1)) ?_
  show J 2 mX8_has 0 [some (.int x), some (.int (nI k))] [] w 0 0 _
  refine J_iload_n dX8_has_0 rfl rfl ?_
  refine J_iload_n dX8_has_1 rfl rfl ?_
  refine K_ishr dX8_has_2 rfl ?_
  refine J_iconst (v := 1) dX8_has_3 (by decide) ?_
  refine K_iand (v := b2i (x.toBitVec.getLsbD k)) dX8_has_4 (shr_bit x hk) ?_
  refine J_if_eq (tgt := 12) dX8_has_5 (by decide) (fun h5 => ?_) (fun h5 => ?_)
  · skip
    have e : x.toBitVec.getLsbD k = false := b2i_eq.mp h5
    rw [e]
    refine J_iconst (v := 0) dX8_has_12 (by decide) ?_
    exact J_ireturn dX8_has_13 rfl rfl ⟨rfl, rfl⟩
  · skip
    have e : x.toBitVec.getLsbD k = true := b2i_ne.mp h5
    rw [e]
    refine J_iconst (v := 1) dX8_has_8 (by decide) ?_
    refine J_goto (tgt := 13) dX8_has_9 (by decide) ?_
    exact J_ireturn dX8_has_13 rfl rfl ⟨rfl, rfl⟩

theorem c_has (w : Wd) {x : Int32} {p : Nat → Bool} (h : bits x p) {k : Nat} (hk : k < 32) : MC 2 mX8_has 0 0 [.int x, .int (nI k)] w (RI (.int (b2i (p k))) w) := h k hk ▸ c_X8_has w x hk
theorem c_bitCount0 (w : Wd) (x : Int32) : MC 2 mJ6_bitCount_0f7a4 0 0 [.int x] w (RI (.int (popF x)) w) := by
  refine MC_j pnJ6 rfl rfl rfl (Or.inr (fun E w h => by cases h.1)) ?_
  show J 2 mJ6_bitCount_0f7a4 0 [some (.int x)] [] w 0 0 _
  refine J_iload_n dJ6_bitCount_0f7a4_0 rfl rfl ?_
  refine J_iload_n dJ6_bitCount_0f7a4_1 rfl rfl ?_
  refine J_iconst (v := nI 1) dJ6_bitCount_0f7a4_2 (by decide) ?_
  refine J_iushr dJ6_bitCount_0f7a4_3 rfl ?_
  refine J_ldcw dJ6_bitCount_0f7a4_4 kcJ6_265 ?_
  refine K_iand dJ6_bitCount_0f7a4_7 rfl ?_
  refine K_isub dJ6_bitCount_0f7a4_8 rfl ?_
  refine J_istore_n dJ6_bitCount_0f7a4_9 rfl (by decide) rfl ?_
  refine J_iload_n dJ6_bitCount_0f7a4_10 rfl rfl ?_
  refine J_ldcw dJ6_bitCount_0f7a4_11 kcJ6_266 ?_
  refine K_iand dJ6_bitCount_0f7a4_14 rfl ?_
  refine J_iload_n dJ6_bitCount_0f7a4_15 rfl rfl ?_
  refine J_iconst (v := nI 2) dJ6_bitCount_0f7a4_16 (by decide) ?_
  refine J_iushr dJ6_bitCount_0f7a4_17 rfl ?_
  refine J_ldcw dJ6_bitCount_0f7a4_18 kcJ6_266 ?_
  refine K_iand dJ6_bitCount_0f7a4_21 rfl ?_
  refine K_iadd dJ6_bitCount_0f7a4_22 rfl ?_
  refine J_istore_n dJ6_bitCount_0f7a4_23 rfl (by decide) rfl ?_
  refine J_iload_n dJ6_bitCount_0f7a4_24 rfl rfl ?_
  refine J_iload_n dJ6_bitCount_0f7a4_25 rfl rfl ?_
  refine J_iconst (v := nI 4) dJ6_bitCount_0f7a4_26 (by decide) ?_
  refine J_iushr dJ6_bitCount_0f7a4_27 rfl ?_
  refine K_iadd dJ6_bitCount_0f7a4_28 rfl ?_
  refine J_ldcw dJ6_bitCount_0f7a4_29 kcJ6_267 ?_
  refine K_iand dJ6_bitCount_0f7a4_32 rfl ?_
  refine J_istore_n dJ6_bitCount_0f7a4_33 rfl (by decide) rfl ?_
  refine J_iload_n dJ6_bitCount_0f7a4_34 rfl rfl ?_
  refine J_iload_n dJ6_bitCount_0f7a4_35 rfl rfl ?_
  refine J_bipush (v := nI 8) dJ6_bitCount_0f7a4_36 (by decide) ?_
  refine J_iushr dJ6_bitCount_0f7a4_38 rfl ?_
  refine K_iadd dJ6_bitCount_0f7a4_39 rfl ?_
  refine J_istore_n dJ6_bitCount_0f7a4_40 rfl (by decide) rfl ?_
  refine J_iload_n dJ6_bitCount_0f7a4_41 rfl rfl ?_
  refine J_iload_n dJ6_bitCount_0f7a4_42 rfl rfl ?_
  refine J_bipush (v := nI 16) dJ6_bitCount_0f7a4_43 (by decide) ?_
  refine J_iushr dJ6_bitCount_0f7a4_45 rfl ?_
  refine K_iadd dJ6_bitCount_0f7a4_46 rfl ?_
  refine J_istore_n dJ6_bitCount_0f7a4_47 rfl (by decide) rfl ?_
  refine J_iload_n dJ6_bitCount_0f7a4_48 rfl rfl ?_
  refine J_bipush (v := nI 63) dJ6_bitCount_0f7a4_49 (by decide) ?_
  refine K_iand dJ6_bitCount_0f7a4_51 rfl ?_
  exact J_ireturn dJ6_bitCount_0f7a4_52 rfl rfl ⟨rfl, rfl⟩

theorem c_bitCount (w : Wd) {x : Int32} {p : Nat → Bool} {n : Nat} (h : bits x p) (hn : n ≤ 14) (hp : ∀ j, n ≤ j → p j = false) : MC 2 mJ6_bitCount_0f7a4 0 0 [.int x] w (RI (.int (nI (cnt n p))) w) := pop_bits h hn hp ▸ c_bitCount0 w x
theorem c_X4_isBlock {w : Wd} {a : Nat} {S : St} (hL : RepC w a S) (x : Int32) : MC 2 mX4_isBlock 0 0 [.ref a, .int x] w (RI (.int (b2i (vi (sNb S) x).isSome)) w) := by
  obtain ⟨x4, x5, x6, f1, f2, f3, f4, f5, f6, f7, f8, hO, ⟨k1, k2, k3, k4, k5, k6, k7, k8⟩, ⟨bc, ba, bo⟩, hlen, hlk, htr, hwf⟩ := hL
  have hnb := hwf.nb
  have hnt := hwf.nt
  refine MC_j pnX4 rfl rfl rfl (Or.inr (fun E w h => by cases h.1)) ?_
  show J 2 mX4_isBlock 0 [some (.ref a), some (.int x)] [] w 0 0 _
  refine J_iload_n dX4_isBlock_0 rfl rfl ?_
  refine J_if_lt (tgt := 16) dX4_isBlock_1 (by decide) (fun h1 => ?_) (fun h1 => ?_)
  · skip
    have e := vi_none (n := sNb S) (by omega) (Or.inl h1)
    refine J_iconst (v := nI 0) dX4_isBlock_16 (by decide) ?_
    exact J_ireturn dX4_isBlock_17 rfl rfl (by rw [e]; exact ⟨rfl, rfl⟩)
  · skip
    refine J_iload_n dX4_isBlock_4 rfl rfl ?_
    refine J_aload_n dX4_isBlock_5 rfl rfl ?_
    refine J_getfield dX4_isBlock_6 fX4_9 hO rfl ?_
    refine J_icmp_ge (tgt := 16) dX4_isBlock_9 (by decide) (fun h9 => ?_) (fun h9 => ?_)
    · skip
      have e := vi_none (n := sNb S) (by omega) (Or.inr h9)
      refine J_iconst (v := nI 0) dX4_isBlock_16 (by decide) ?_
      exact J_ireturn dX4_isBlock_17 rfl rfl (by rw [e]; exact ⟨rfl, rfl⟩)
    · skip
      have e := (vi_iff (n := sNb S) (by omega)).mpr ⟨h1, Int32.not_le.mp h9⟩
      refine J_iconst (v := nI 1) dX4_isBlock_12 (by decide) ?_
      refine J_goto (tgt := 17) dX4_isBlock_13 (by decide) ?_
      exact J_ireturn dX4_isBlock_17 rfl rfl (by rw [e]; exact ⟨rfl, rfl⟩)

theorem c_X4_isTrain {w : Wd} {a : Nat} {S : St} (hL : RepC w a S) (x : Int32) : MC 2 mX4_isTrain 0 0 [.ref a, .int x] w (RI (.int (b2i (vi (sNt S) x).isSome)) w) := by
  obtain ⟨x4, x5, x6, f1, f2, f3, f4, f5, f6, f7, f8, hO, ⟨k1, k2, k3, k4, k5, k6, k7, k8⟩, ⟨bc, ba, bo⟩, hlen, hlk, htr, hwf⟩ := hL
  have hnb := hwf.nb
  have hnt := hwf.nt
  refine MC_j pnX4 rfl rfl rfl (Or.inr (fun E w h => by cases h.1)) ?_
  show J 2 mX4_isTrain 0 [some (.ref a), some (.int x)] [] w 0 0 _
  refine J_iload_n dX4_isTrain_0 rfl rfl ?_
  refine J_if_lt (tgt := 16) dX4_isTrain_1 (by decide) (fun h1 => ?_) (fun h1 => ?_)
  · skip
    have e := vi_none (n := sNt S) (by omega) (Or.inl h1)
    refine J_iconst (v := nI 0) dX4_isTrain_16 (by decide) ?_
    exact J_ireturn dX4_isTrain_17 rfl rfl (by rw [e]; exact ⟨rfl, rfl⟩)
  · skip
    refine J_iload_n dX4_isTrain_4 rfl rfl ?_
    refine J_aload_n dX4_isTrain_5 rfl rfl ?_
    refine J_getfield dX4_isTrain_6 fX4_15 hO rfl ?_
    refine J_icmp_ge (tgt := 16) dX4_isTrain_9 (by decide) (fun h9 => ?_) (fun h9 => ?_)
    · skip
      have e := vi_none (n := sNt S) (by omega) (Or.inr h9)
      refine J_iconst (v := nI 0) dX4_isTrain_16 (by decide) ?_
      exact J_ireturn dX4_isTrain_17 rfl rfl (by rw [e]; exact ⟨rfl, rfl⟩)
    · skip
      have e := (vi_iff (n := sNt S) (by omega)).mpr ⟨h1, Int32.not_le.mp h9⟩
      refine J_iconst (v := nI 1) dX4_isTrain_12 (by decide) ?_
      refine J_goto (tgt := 17) dX4_isTrain_13 (by decide) ?_
      exact J_ireturn dX4_isTrain_17 rfl rfl (by rw [e]; exact ⟨rfl, rfl⟩)

theorem c_X4_isJoined {w : Wd} {a : Nat} {S : St} (hL : RepC w a S) {i k : Nat} (hi : i < 14) (hk : k < 32) : MC 3 mX4_isJoined 0 0 [.ref a, .int (nI i), .int (nI k)] w (RI (.int (b2i (sLk S i k))) w) := by
  obtain ⟨x4, x5, x6, f1, f2, f3, f4, f5, f6, f7, f8, hO, ⟨k1, k2, k3, k4, k5, k6, k7, k8⟩, ⟨bc, ba, bo⟩, hlen, hlk, htr, hwf⟩ := hL
  refine MC_j pnX4 rfl rfl rfl (Or.inr (fun E w h => by cases h.1)) ?_
  show J 3 mX4_isJoined 0 [some (.ref a), some (.int (nI i)), some (.int (nI k))] [] w 0 0 _
  refine J_aload_n dX4_isJoined_0 rfl rfl ?_
  refine J_getfield dX4_isJoined_1 fX4_37 hO rfl ?_
  refine J_iload_n dX4_isJoined_4 rfl rfl ?_
  refine K_iaload dX4_isJoined_5 k2 (vp_in_nI hi (by decide)) rfl ?_
  refine J_iload_n dX4_isJoined_6 rfl rfl ?_
  rw [nI_clamp (by omega)]
  refine K_callSN dX4_isJoined_7 YX8_has kX4_64 (c_has w (hlk i hi) hk) rfl rfl (Nat.le_of_ble_eq_true rfl) (by decide) ?_
  exact J_ireturn dX4_isJoined_10 rfl (b2i_nar _) ⟨rfl, rfl⟩

theorem c_X4_trainAt {w : Wd} {a : Nat} {S : St} (hL : RepC w a S) {b : Nat} (hb : b < 2 ^ 31) : MC 2 mX4_trainAt 0 0 [.ref a, .int (nI b)] w (RI (.int (oI (tAt S b))) w) := by
  obtain ⟨x4, x5, x6, f1, f2, f3, f4, f5, f6, f7, f8, hO, ⟨k1, k2, k3, k4, k5, k6, k7, k8⟩, ⟨bc, ba, bo⟩, hlen, hlk, htr, hwf⟩ := hL
  have hnb := hwf.nb
  have hnt := hwf.nt
  refine MC_j pnX4 rfl rfl rfl (Or.inr (fun E w h => by cases h.1)) ?_
  show J 2 mX4_trainAt 0 [some (.ref a), some (.int (nI b)), none] [] w 0 0 _
  have loop : ∀ n k, sNt S < n + k → k ≤ sNt S → (∀ j, j < k → (sPl S j == b) = false) → J 2 mX4_trainAt 2 [some (.ref a), some (.int (nI b)), some (.int (nI k))] [] w 0 0 (RI (.int (oI (tAt S b))) w) := by
    intro n
    induction n with
    | zero => intro k q1 q2; omega
    | succ n ih =>
      intro k q1 q2 hno
      refine J_iload_n dX4_trainAt_2 rfl rfl ?_
      refine J_aload_n dX4_trainAt_3 rfl rfl ?_
      refine J_getfield dX4_trainAt_4 fX4_15 hO rfl ?_
      refine J_icmp_ge (tgt := 28) dX4_trainAt_7 (by decide) (fun h7 => ?_) (fun h7 => ?_)
      · skip
        have h7 := (nI_leI (by omega) (by omega)).mp h7
        refine J_iconst (v := (-1)) dX4_trainAt_28 (by decide) ?_
        exact J_ireturn dX4_trainAt_29 rfl rfl ⟨by rw [show tAt S b = none from fnd_none fun j hj => hno j (by omega)]; rfl, rfl⟩
      · skip
        have h7 : ¬ sNt S ≤ k := fun q => h7 ((nI_leI (by omega) (by omega)).mpr q)
        refine J_aload_n dX4_trainAt_10 rfl rfl ?_
        refine J_getfield dX4_trainAt_11 fX4_40 hO rfl ?_
        refine J_iload_n dX4_trainAt_14 rfl rfl ?_
        refine K_iaload (v := nI (sPl S k)) dX4_trainAt_15 k3 (vp_in_nI (n := k) (by omega) (by decide)) (by rw [nI_clamp (by omega)]; exact (htr k (by omega)).1) ?_
        refine J_iload_n dX4_trainAt_16 rfl rfl ?_
        refine J_icmp_ne (tgt := 22) dX4_trainAt_17 (by decide) (fun h17 => ?_) (fun h17 => ?_)
        · skip
          have e : (sPl S k == b) = false := by
            rw [beq_eq_false_iff_ne]
            exact fun q => h17 (by rw [q])
          refine J_iinc (v := nI (k + 1)) dX4_trainAt_22 rfl (nI_succ k).symm (by decide) rfl ?_
          refine J_goto (tgt := 2) dX4_trainAt_25 (by decide) ?_
          exact ih (k + 1) (by omega) (by omega) (fun j hj => by
              by_cases q : j = k
              · rw [q]; exact e
              · exact hno j (by omega))
        · skip
          have e : sPl S k = b := nI_inj (by have := (hwf.2.2.2.2.1 k (by omega)).1; omega) (by omega) h17
          refine J_iload_n dX4_trainAt_20 rfl rfl ?_
          exact J_ireturn dX4_trainAt_21 rfl rfl ⟨by rw [show tAt S b = some k from fnd_some (by omega) (by rw [e]; simp) hno]; rfl, rfl⟩
  refine J_iconst (v := nI 0) dX4_trainAt_0 (by decide) ?_
  refine J_istore_n dX4_trainAt_1 rfl (by decide) rfl ?_
  exact loop (sNt S + 1) 0 (by omega) (by omega) (fun j hj => by omega)

theorem c_X4_holderOf {w : Wd} {a : Nat} {S : St} (hL : RepC w a S) {b : Nat} (hb : b < 2 ^ 31) : MC 2 mX4_holderOf 0 0 [.ref a, .int (nI b)] w (RI (.int (oI (hOf S b))) w) := by
  obtain ⟨x4, x5, x6, f1, f2, f3, f4, f5, f6, f7, f8, hO, ⟨k1, k2, k3, k4, k5, k6, k7, k8⟩, ⟨bc, ba, bo⟩, hlen, hlk, htr, hwf⟩ := hL
  have hnb := hwf.nb
  have hnt := hwf.nt
  refine MC_j pnX4 rfl rfl rfl (Or.inr (fun E w h => by cases h.1)) ?_
  show J 2 mX4_holderOf 0 [some (.ref a), some (.int (nI b)), none] [] w 0 0 _
  have loop : ∀ n k, sNt S < n + k → k ≤ sNt S → (∀ j, j < k → (sHo S j == some b) = false) → J 2 mX4_holderOf 2 [some (.ref a), some (.int (nI b)), some (.int (nI k))] [] w 0 0 (RI (.int (oI (hOf S b))) w) := by
    intro n
    induction n with
    | zero => intro k q1 q2; omega
    | succ n ih =>
      intro k q1 q2 hno
      refine J_iload_n dX4_holderOf_2 rfl rfl ?_
      refine J_aload_n dX4_holderOf_3 rfl rfl ?_
      refine J_getfield dX4_holderOf_4 fX4_15 hO rfl ?_
      refine J_icmp_ge (tgt := 28) dX4_holderOf_7 (by decide) (fun h7 => ?_) (fun h7 => ?_)
      · skip
        have h7 := (nI_leI (by omega) (by omega)).mp h7
        refine J_iconst (v := (-1)) dX4_holderOf_28 (by decide) ?_
        exact J_ireturn dX4_holderOf_29 rfl rfl ⟨by rw [show hOf S b = none from fnd_none fun j hj => hno j (by omega)]; rfl, rfl⟩
      · skip
        have h7 : ¬ sNt S ≤ k := fun q => h7 ((nI_leI (by omega) (by omega)).mpr q)
        refine J_aload_n dX4_holderOf_10 rfl rfl ?_
        refine J_getfield dX4_holderOf_11 fX4_52 hO rfl ?_
        refine J_iload_n dX4_holderOf_14 rfl rfl ?_
        refine K_iaload (v := oI (sHo S k)) dX4_holderOf_15 k7 (vp_in_nI (n := k) (by omega) (by decide)) (by rw [nI_clamp (by omega)]; exact (htr k (by omega)).2.2.2.2.1) ?_
        refine J_iload_n dX4_holderOf_16 rfl rfl ?_
        refine J_icmp_ne (tgt := 22) dX4_holderOf_17 (by decide) (fun h17 => ?_) (fun h17 => ?_)
        · skip
          have e : (sHo S k == some b) = false := by
            rw [beq_eq_false_iff_ne]
            exact fun q => h17 (by rw [q]; rfl)
          refine J_iinc (v := nI (k + 1)) dX4_holderOf_22 rfl (nI_succ k).symm (by decide) rfl ?_
          refine J_goto (tgt := 2) dX4_holderOf_25 (by decide) ?_
          exact ih (k + 1) (by omega) (by omega) (fun j hj => by
              by_cases q : j = k
              · rw [q]; exact e
              · exact hno j (by omega))
        · skip
          have e : sHo S k = some b := by
            cases q : sHo S k with
            | none =>
              rw [q] at h17
              exact absurd (Eq.symm h17) (nI_ne_m1 (by omega))
            | some y =>
              rw [q] at h17
              have := hwf.2.2.2.2.2.2.1 k (by omega) y q
              rw [nI_inj (a := y) (b := b) (by omega) (by omega) h17]
          refine J_iload_n dX4_holderOf_20 rfl rfl ?_
          exact J_ireturn dX4_holderOf_21 rfl rfl ⟨by rw [show hOf S b = some k from fnd_some (by omega) (by rw [e]; simp) hno]; rfl, rfl⟩
  refine J_iconst (v := nI 0) dX4_holderOf_0 (by decide) ?_
  refine J_istore_n dX4_holderOf_1 rfl (by decide) rfl ?_
  exact loop (sNt S + 1) 0 (by omega) (by omega) (fun j hj => by omega)

end JLAYOUT

/-! THE MODEL: what is asked of it -/
section JMREAD
theorem c_X9_linked {w : Wd} {m : Nat} {x : Nat → Int32} {f : Nat → Int32} {S : St} (mO : w.1 m = mCell m x) (mS : w.1 (m + 1) = .inl (0, 116, .inl f)) (hfit : FitM f S) {a k : Nat} (ha : a < sNb S) (hk : k < 32) : MC 2 mX9_linked 0 0 [.ref m, .int (nI a), .int (nI k)] w (RI (.int (b2i (sLk S a k))) w) := by
  have hwf := hfit.2.2.2.2
  have hnb := hwf.nb
  have hnt := hwf.nt
  refine MC_j pnX9 rfl rfl rfl (Or.inr (fun E w h => by cases h.1)) ?_
  show J 2 mX9_linked 0 [some (.ref m), some (.int (nI a)), some (.int (nI k))] [] w 0 0 _
  refine J_aload_n dX9_linked_0 rfl rfl ?_
  refine J_getfield dX9_linked_1 fX9_7 mO rfl ?_
  refine J_bipush (v := nI 60) dX9_linked_4 (by decide) ?_
  refine J_iload_n dX9_linked_6 rfl rfl ?_
  refine K_iadd (v := nI (60 + a)) dX9_linked_7 (nI_add _ _) ?_
  refine K_iald (v := f (60 + a)) dX9_linked_8 mS (by omega) (by decide) rfl ?_
  refine J_iload_n dX9_linked_9 rfl rfl ?_
  refine K_ishr (v := f (60 + a) >>> (nI k &&& 31)) dX9_linked_10 rfl ?_
  refine J_iconst (v := 1) dX9_linked_11 (by decide) ?_
  refine K_iand (v := b2i (sLk S a k)) dX9_linked_12 (bit_of (hfit.2.2.1 _ ha) hk) ?_
  refine J_iconst (v := nI 1) dX9_linked_13 (by decide) ?_
  refine J_icmp_ne (tgt := 21) dX9_linked_14 (by decide) (fun h14 => ?_) (fun h14 => ?_)
  · skip
    have e14 : sLk S a k = false := b2i_n1 h14
    refine J_iconst (v := nI 0) dX9_linked_21 (by decide) ?_
    exact J_ireturn dX9_linked_22 rfl rfl ⟨by rw [e14]; rfl, rfl⟩
  · skip
    have e14 : sLk S a k = true := b2i_1.mp h14
    refine J_iconst (v := nI 1) dX9_linked_17 (by decide) ?_
    refine J_goto (tgt := 22) dX9_linked_18 (by decide) ?_
    exact J_ireturn dX9_linked_22 rfl rfl ⟨by rw [e14]; rfl, rfl⟩

theorem c_X9_links {w : Wd} {m : Nat} {x : Nat → Int32} {f : Nat → Int32} {S : St} (mO : w.1 m = mCell m x) (mS : w.1 (m + 1) = .inl (0, 116, .inl f)) (hfit : FitM f S) : MC 3 mX9_links 0 0 [.ref m] w (RI (.int (nI (lkN S (sNb S)))) w) := by
  have hwf := hfit.2.2.2.2
  have hnb := hwf.nb
  have hnt := hwf.nt
  refine MC_j pnX9 rfl rfl rfl (Or.inr (fun E w h => by cases h.1)) ?_
  show J 3 mX9_links 0 [some (.ref m), none, none, none] [] w 0 0 _
  have loop : ∀ n a o3, sNb S < n + a → a ≤ sNb S → J 3 mX9_links 4 [some (.ref m), some (.int (nI (lkN S a))), some (.int (nI a)), o3] [] w 0 0 (RI (.int (nI (lkN S (sNb S)))) w) := by
    intro n
    induction n with
    | zero => intros; omega
    | succ n ih =>
      intro a o3 q1 q2
      have inner : a < sNb S → ∀ p b, a < p + b → b ≤ a → J 3 mX9_links 16 [some (.ref m), some (.int (nI (lkN S a + cnt b (sLk S a)))), some (.int (nI a)), some (.int (nI b))] [] w 0 0 (RI (.int (nI (lkN S (sNb S)))) w) := by
        intro hab p
        induction p with
        | zero => intros; omega
        | succ p ihb =>
          intro b q3 q4
          refine J_iload_n dX9_links_16 rfl rfl ?_
          refine J_iload_n dX9_links_17 rfl rfl ?_
          refine J_icmp_ge (tgt := 44) dX9_links_18 (by decide) (fun h18 => ?_) (fun h18 => ?_)
          · skip
            have h18 := (nI_leI (by omega) (by omega)).mp h18
            have eb : b = a := by omega
            subst eb
            refine J_iinc (v := nI (b + 1)) dX9_links_44 rfl (nI_succ _).symm (by decide) rfl ?_
            refine J_goto (tgt := 4) dX9_links_47 (by decide) ?_
            exact ih (b + 1) _ (by omega) (by omega)
          · skip
            have h18 := mt (nI_leI (by omega) (by omega)).mpr h18
            refine J_iload_n dX9_links_21 rfl rfl ?_
            refine J_aload_n dX9_links_22 rfl rfl ?_
            refine J_iload_n dX9_links_23 rfl rfl ?_
            refine J_iload_n dX9_links_24 rfl rfl ?_
            refine K_callV dX9_links_25 YX9_linked kX9_67 (rc_of mO rfl) (c_X9_linked mO mS hfit (show a < sNb S by omega) (show b < 32 by omega)) rfl rfl (Nat.le_of_ble_eq_true rfl) (by decide) ?_
            refine J_if_eq (tgt := 35) dX9_links_28 (by decide) (fun h28 => ?_) (fun h28 => ?_)
            · skip
              have e28 : sLk S a b = false := b2i_eq.mp h28
              refine J_iconst (v := nI 0) dX9_links_35 (by decide) ?_
              refine K_iadd (v := nI (lkN S a + cnt b (sLk S a) + 0)) dX9_links_36 (nI_add _ _) ?_
              refine J_istore_n dX9_links_37 rfl (by decide) rfl ?_
              refine J_iinc (v := nI (b + 1)) dX9_links_38 rfl (nI_succ _).symm (by decide) rfl ?_
              refine J_goto (tgt := 16) dX9_links_41 (by decide) ?_
              have ec := cnt_f (p := sLk S a) (n := b) e28
              have g := ihb (b + 1) (by omega) (by omega)
              rw [ec] at g
              exact g
            · skip
              have e28 : sLk S a b = true := b2i_ne.mp h28
              refine J_iconst (v := nI 1) dX9_links_31 (by decide) ?_
              refine J_goto (tgt := 36) dX9_links_32 (by decide) ?_
              refine K_iadd (v := nI (lkN S a + cnt b (sLk S a) + 1)) dX9_links_36 (nI_add _ _) ?_
              refine J_istore_n dX9_links_37 rfl (by decide) rfl ?_
              refine J_iinc (v := nI (b + 1)) dX9_links_38 rfl (nI_succ _).symm (by decide) rfl ?_
              refine J_goto (tgt := 16) dX9_links_41 (by decide) ?_
              have ec := cnt_t (p := sLk S a) (n := b) e28
              have g := ihb (b + 1) (by omega) (by omega)
              rw [ec, ← Nat.add_assoc] at g
              exact g
      refine J_iload_n dX9_links_4 rfl rfl ?_
      refine J_aload_n dX9_links_5 rfl rfl ?_
      refine J_getfield dX9_links_6 fX9_7 mO rfl ?_
      refine J_iconst (v := nI 0) dX9_links_9 (by decide) ?_
      refine K_iald (v := nI (sNb S)) dX9_links_10 mS (by omega) (by decide) hfit.1.1 ?_
      refine J_icmp_ge (tgt := 50) dX9_links_11 (by decide) (fun h11 => ?_) (fun h11 => ?_)
      · skip
        have h11 := (nI_leI (by omega) (by omega)).mp h11
        have ea : a = sNb S := by omega
        subst ea
        refine J_iload_n dX9_links_50 rfl rfl ?_
        exact J_ireturn dX9_links_51 rfl rfl ⟨rfl, rfl⟩
      · skip
        have h11 := mt (nI_leI (by omega) (by omega)).mpr h11
        refine J_iconst (v := nI 0) dX9_links_14 (by decide) ?_
        refine J_istore_n dX9_links_15 rfl (by decide) rfl ?_
        exact inner (by omega) (a + 1) 0 (by omega) (by omega)
  refine J_iconst (v := nI 0) dX9_links_0 (by decide) ?_
  refine J_istore_n dX9_links_1 rfl (by decide) rfl ?_
  refine J_iconst (v := nI 0) dX9_links_2 (by decide) ?_
  refine J_istore_n dX9_links_3 rfl (by decide) rfl ?_
  exact loop (sNb S + 1) 0 none (by omega) (by omega)

theorem c_X9_cats {w : Wd} {m : Nat} {x : Nat → Int32} {f : Nat → Int32} {S : St} (mO : w.1 m = mCell m x) (mS : w.1 (m + 1) = .inl (0, 116, .inl f)) (hfit : FitM f S) : MC 3 mX9_cats 0 0 [.ref m] w (RI (.int (nI (cnt (sNb S) (sCa S)))) w) := by
  have hwf := hfit.2.2.2.2
  have hnb := hwf.nb
  have hnt := hwf.nt
  refine MC_j pnX9 rfl rfl rfl (Or.inr (fun E w h => by cases h.1)) ?_
  show J 3 mX9_cats 0 [some (.ref m), none, none] [] w 0 0 _
  have loop : ∀ n b, sNb S < n + b → b ≤ sNb S → J 3 mX9_cats 4 [some (.ref m), some (.int (nI (cnt b (sCa S)))), some (.int (nI b))] [] w 0 0 (RI (.int (nI (cnt (sNb S) (sCa S)))) w) := by
    intro n
    induction n with
    | zero => intros; omega
    | succ n ih =>
      intro b q1 q2
      refine J_iload_n dX9_cats_4 rfl rfl ?_
      refine J_aload_n dX9_cats_5 rfl rfl ?_
      refine J_getfield dX9_cats_6 fX9_7 mO rfl ?_
      refine J_iconst (v := nI 0) dX9_cats_9 (by decide) ?_
      refine K_iald (v := nI (sNb S)) dX9_cats_10 mS (by omega) (by decide) hfit.1.1 ?_
      refine J_icmp_ge (tgt := 29) dX9_cats_11 (by decide) (fun h11 => ?_) (fun h11 => ?_)
      · skip
        have h11 := (nI_leI (by omega) (by omega)).mp h11
        have eb : b = sNb S := by omega
        subst eb
        refine J_iload_n dX9_cats_29 rfl rfl ?_
        exact J_ireturn dX9_cats_30 rfl rfl ⟨rfl, rfl⟩
      · skip
        have h11 := mt (nI_leI (by omega) (by omega)).mpr h11
        refine J_iload_n dX9_cats_14 rfl rfl ?_
        refine J_aload_n dX9_cats_15 rfl rfl ?_
        refine J_iload_n dX9_cats_16 rfl rfl ?_
        refine J_iconst (v := nI 2) dX9_cats_17 (by decide) ?_
        refine K_callV dX9_cats_18 YX9_block kX9_71 (rc_of mO rfl) (c_X9_bCa mO mS hfit (show b < sNb S by omega)) rfl rfl (Nat.le_of_ble_eq_true rfl) (by decide) ?_
        refine K_iadd (v := nI (cnt (b + 1) (sCa S))) dX9_cats_21 (cnt_b2i _ _) ?_
        refine J_istore_n dX9_cats_22 rfl (by decide) rfl ?_
        refine J_iinc (v := nI (b + 1)) dX9_cats_23 rfl (nI_succ _).symm (by decide) rfl ?_
        refine J_goto (tgt := 4) dX9_cats_26 (by decide) ?_
        exact ih (b + 1) (by omega) (by omega)
  refine J_iconst (v := nI 0) dX9_cats_0 (by decide) ?_
  refine J_istore_n dX9_cats_1 rfl (by decide) rfl ?_
  refine J_iconst (v := nI 0) dX9_cats_2 (by decide) ?_
  refine J_istore_n dX9_cats_3 rfl (by decide) rfl ?_
  exact loop (sNb S + 1) 0 (by omega) (by omega)

end JMREAD

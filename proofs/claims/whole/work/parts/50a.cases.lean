/-! THE LAW: its cases -/
section JCASES
abbrev mL_law : MI := (yL_law, cL_law, 9, some .boolean, [])
theorem nI_addx (a b : Nat) : nI a + nI b = nI (a + b) := (Int32.ofNat_add a b).symm
theorem scIn {i j N : Nat} (h : i + j < N) (hN : N < 2 ^ 31) : vp_in (nI i + nI j) N := by rw [nI_addx]; exact vp_in_nI h hN
theorem lgc_eq {a b : Int64} (h : a = b) : lg_cmp a b = 0 := by subst h; unfold lg_cmp; rw [if_neg (by simp), if_pos rfl]
theorem i2c_ex (y : Int32) : ∃ c, c < 65536 ∧ (y.toUInt32 % 65536).toInt32 = nI c := by
  refine ⟨(y.toUInt32 % 65536).toNat, ?_, ?_⟩
  · rw [UInt32.toNat_mod]
    exact Nat.mod_lt _ (by decide)
  · apply Int32.toInt_inj.mp
    show _ = (Int32.ofNat _).toInt
    congr 1
    apply Int32.toBitVec_inj.mp
    show (y.toUInt32 % 65536).toBitVec = BitVec.ofNat 32 (y.toUInt32 % 65536).toNat
    apply BitVec.eq_of_toNat_eq
    rw [BitVec.toNat_ofNat]
    exact (Nat.mod_eq_of_lt (UInt32.toNat_lt _)).symm
theorem MA.kp {w w' : Wd} {m : Nat} {x : Nat → Int32} {S : St} (h : MA w m x S) (k : ∀ b : Nat, m ≤ b → b < m + 11 → w'.1 b = w.1 b) : MA w' m x S := by
  obtain ⟨f, g, h, a, b, c, d, e⟩ := h
  exact ⟨f, g, h, (k _ (by omega) (by omega)).trans a, (k _ (by omega) (by omega)).trans b, (k _ (by omega) (by omega)).trans c, (k _ (by omega) (by omega)).trans d, e⟩
theorem RepM.kp {w w' : Wd} {m : Nat} {G : Gme} {th : Nat} (h : RepM w m G th) (k : ∀ b : Nat, m ≤ b → b < m + 11 → w'.1 b = w.1 b) : RepM w' m G th := by
  obtain ⟨x, f2, f3, f4, f5, f6, f7, f8, h1, ⟨a2, a3, a4, a5, a6, a7, a8⟩, h3⟩ := h
  exact ⟨x, f2, f3, f4, f5, f6, f7, f8, h1.kp k, ⟨(k _ (by omega) (by omega)).trans a2, (k _ (by omega) (by omega)).trans a3, (k _ (by omega) (by omega)).trans a4, (k _ (by omega) (by omega)).trans a5, (k _ (by omega) (by omega)).trans a6, (k _ (by omega) (by omega)).trans a7, (k _ (by omega) (by omega)).trans a8⟩, h3⟩
theorem RepM.rc {w : Wd} {m : Nat} {G : Gme} {th : Nat} (h : RepM w m G th) : Rc w m RX9 := by
  obtain ⟨x, f2, f3, f4, f5, f6, f7, f8, ⟨f, g, h, a, -⟩, -⟩ := h
  exact rc_of a rfl
/-- between two commands of the law: the railway at x, the model at m, the arrays for the answers at o and q -/
def LI (w : Wd) (x m o q : Nat) (G M : Gme) (th : Nat) : Prop := RepX w x G ∧ RepM w m M th ∧ (∃ g : Nat → Int64, w.1 o = .inl (2, 1, .inr (.inl g))) ∧ (∃ g : Nat → UInt64, w.1 q = .inl (3, 1, .inr (.inr (.inr (.inl g))))) ∧ (x + 126 ≤ m ∧ m + 11 ≤ o ∧ o < q)
section
variable {sN : Nat} {sF : Nat → Int32} {d : Nat} {mi : MI} {pc : Nat} {lc : List (Option Value)} {st : List Value} {w : Wd} {kb sb : Nat} {Q : Po} {x m o q th : Nat} {G M : Gme}
theorem JL_help {idx n d' : Nat} {y : MI} {As st0 : List Value} {R : GRs} {l : List Nat} (hd : decode mi.2.1 pc = .ok (.invokestatic idx, 3)) (hh : headC y = .codeWith y.1 y.2.1 y.2.2.1 y.2.2.2.1 y.2.2.2.2) (hY : headC y ∈ AL ∧ Cond.initialized y.1.cls ∈ AL ∧ (y.1.cls ≠ "java/lang/invoke/MethodHandle" ∧ y.1.cls ≠ "java/lang/invoke/VarHandle" ∧ (parseMethodDescriptor y.1.desc).map (fun d => d.parameters.length) = some n) ∧ y.2.2.1 ≤ 40) (hL : Cond.methodLink mi.1.cls idx y.1 ∈ AL ∧ Cond.static y.1 ∈ AL) (hI : LI w x m o q G M th)
    (hM : ∀ g0 : Nat → Int64, w.1 o = .inl (2, 1, .inr (.inl g0)) → (o < x ∨ x + 126 ≤ o) → MC d' y 1 6 As w (LPo w x o l R)) (hn : As.length = n) (hst : st0 = As.reverse ++ st) (hcat : (st.map fun v => v.category).sum ≤ 8) (hdd : d' + 1 ≤ d)
    (kk : ∀ (w' : Wd) (g : Nat → Int64), w'.1 o = .inl (2, 1, .inr (.inl g)) → (R.1 = 0 → g 0 = R.2.1.toInt64) → LI w' x m o q R.2.2 M th → JL sN sF d mi (pc + 3) lc (.int (nI (cod l R.1)) :: st) w' kb sb Q) : JL sN sF d mi pc lc st0 w (kb + 1) (sb + 6) Q := by
  obtain ⟨hX, hRM, ⟨g0, hO⟩, ⟨g1, hD⟩, ⟨i1, i2, i3⟩⟩ := hI
  refine JL_callSH hd hh hY hL (hM g0 hO (by omega)) hn hst hcat hdd (fun v w' h => ?_) (fun E w' h => absurd h (RP_no E w'))
  obtain ⟨v', e, rfl, f1, f2, hX', g, hg, h0⟩ := h
  cases e
  exact kk w' g hg h0 ⟨hX', hRM.kp (fun b h1 h2 => f1 b (by omega) (by omega)), ⟨g, hg⟩, ⟨g1, (f1 q (by omega) (by omega)).trans hD⟩, i1, i2, i3⟩
theorem JL_helpd {idx n d' nn : Nat} {y : MI} {As st0 : List Value} {t : UInt64} (hd : decode mi.2.1 pc = .ok (.invokestatic idx, 3)) (hh : headC y = .codeWith y.1 y.2.1 y.2.2.1 y.2.2.2.1 y.2.2.2.2) (hY : headC y ∈ AL ∧ Cond.initialized y.1.cls ∈ AL ∧ (y.1.cls ≠ "java/lang/invoke/MethodHandle" ∧ y.1.cls ≠ "java/lang/invoke/VarHandle" ∧ (parseMethodDescriptor y.1.desc).map (fun d => d.parameters.length) = some n) ∧ y.2.2.1 ≤ 40) (hL : Cond.methodLink mi.1.cls idx y.1 ∈ AL ∧ Cond.static y.1 ∈ AL) (hI : LI w x m o q G M th)
    (hM : ∀ g0 : Nat → UInt64, w.1 q = .inl (3, 1, .inr (.inr (.inr (.inl g0)))) → (q < x ∨ x + 126 ≤ q) → MC d' y 1 6 As w (LPd w x q nn t G)) (hn : As.length = n) (hst : st0 = As.reverse ++ st) (hcat : (st.map fun v => v.category).sum ≤ 8) (hdd : d' + 1 ≤ d)
    (kk : ∀ (w' : Wd) (g : Nat → UInt64), w'.1 q = .inl (3, 1, .inr (.inr (.inr (.inl g)))) → (nn ≠ 0 → g 0 = t) → LI w' x m o q G M th → JL sN sF d mi (pc + 3) lc (.int (nI (if nn = 0 then 1 else 0)) :: st) w' kb sb Q) : JL sN sF d mi pc lc st0 w (kb + 1) (sb + 6) Q := by
  obtain ⟨hX, hRM, ⟨g0, hO⟩, ⟨g1, hD⟩, ⟨i1, i2, i3⟩⟩ := hI
  refine JL_callSH hd hh hY hL (hM g1 hD (by omega)) hn hst hcat hdd (fun v w' h => ?_) (fun E w' h => absurd h (RP_no E w'))
  obtain ⟨v', e, rfl, f1, f2, hX', g, hg, h0⟩ := h
  cases e
  exact kk w' g hg h0 ⟨hX', hRM.kp (fun b h1 h2 => f1 b (by omega) (by omega)), ⟨g0, (f1 o (by omega) (by omega)).trans hO⟩, ⟨g, hg⟩, i1, i2, i3⟩
theorem JL_cls {idx n d' : Nat} {y : MI} {As st0 : List Value} {R : GRs} (hd : decode mi.2.1 pc = .ok (.invokevirtual idx, 3)) (hY : YL y n) (hyc : y.1.cls = RX8) (hL : Cond.methodLink mi.1.cls idx y.1 ∈ AL ∧ Cond.instanceMethod y.1 ∈ AL ∧ Cond.selects y.1.cls y.1 y.1 ∈ AL) (hI : LI w x m o q G M th)
    (hM : RepX w x G → MC d' y 1 6 (.ref x :: As) w (GXo w x R)) (h0 : R.1 = 0) (hn : As.length = n) (hst : st0 = As.reverse ++ .ref x :: st) (hcat : (st.map fun v => v.category).sum ≤ 8) (hdd : d' + 1 ≤ d)
    (kk : ∀ w' : Wd, LI w' x m o q R.2.2 M th → JL sN sF d mi (pc + 3) lc (.int R.2.1 :: st) w' kb sb Q) : JL sN sF d mi pc lc st0 w (kb + 1) (sb + 6) Q := by
  obtain ⟨hX, hRM, ⟨g0, hO⟩, ⟨g1, hD⟩, ⟨i1, i2, i3⟩⟩ := hI
  refine JL_callV hd hY hL (by rw [hyc]; exact hX.rc) (hM hX) hn hst hcat hdd (fun v w' h => ?_) (fun E w' h => absurd h0 (GXo_E h).1)
  obtain ⟨-, rfl⟩ := GXo_V h
  obtain ⟨f, hX', -⟩ := h
  exact kk w' ⟨hX', hRM.kp (fun b h1 h2 => f.1 b (by omega)), ⟨g0, (f.1 o (by omega)).trans hO⟩, ⟨g1, (f.1 q (by omega)).trans hD⟩, i1, i2, i3⟩
theorem JL_mod {idx n d' : Nat} {y : MI} {As st0 : List Value} {R : GRs} {l : List Nat} {g : Nat → Int64} (hd : decode mi.2.1 pc = .ok (.invokevirtual idx, 3)) (hY : YL y n) (hyc : y.1.cls = RX9) (hL : Cond.methodLink mi.1.cls idx y.1 ∈ AL ∧ Cond.instanceMethod y.1 ∈ AL ∧ Cond.selects y.1.cls y.1 y.1 ∈ AL) (hI : LI w x m o q G M th) (hO : w.1 o = .inl (2, 1, .inr (.inl g)))
    (hM : RepM w m M th → MC d' y 0 0 (.ref m :: As) w (GM w m l R)) (hn : As.length = n) (hst : st0 = As.reverse ++ .ref m :: st) (hcat : (st.map fun v => v.category).sum ≤ 8) (hdd : d' + 1 ≤ d)
    (kk : ∀ (w' : Wd) (z : Int32), (R.1 = 0 → z = R.2.1) → LI w' x m o q G R.2.2 (cod l R.1) → w'.1 o = .inl (2, 1, .inr (.inl g)) → JL sN sF d mi (pc + 3) lc (.int z :: st) w' kb sb Q) : JL sN sF d mi pc lc st0 w kb sb Q := by
  obtain ⟨hX, hRM, -, ⟨g1, hD⟩, ⟨i1, i2, i3⟩⟩ := hI
  refine JL_callV (kb := kb) (sb := sb) (kb' := 0) (sb' := 0) hd hY hL (by rw [hyc]; exact hRM.rc) (hM hRM) hn hst hcat hdd (fun v w' h => ?_) (fun E w' h => absurd h (RP_no E w'))
  obtain ⟨v', e, ⟨z, rfl, hz⟩, f, hR'⟩ := h
  cases e
  have hO' := (f.1 o (by omega)).trans hO
  exact kk w' z hz ⟨hX.kp (fun b h1 h2 => f.1 b (by omega)), hR', ⟨g, hO'⟩, ⟨g1, (f.1 q (by omega)).trans hD⟩, i1, i2, i3⟩ hO'
theorem JL_thr {idx d' : Nat} {y : MI} {st0 : List Value} (hd : decode mi.2.1 pc = .ok (.invokevirtual idx, 3)) (hY : YL y 0) (hyc : y.1.cls = RX9) (hL : Cond.methodLink mi.1.cls idx y.1 ∈ AL ∧ Cond.instanceMethod y.1 ∈ AL ∧ Cond.selects y.1.cls y.1 y.1 ∈ AL) (hI : LI w x m o q G M th)
    (hM : RepM w m M th → MC d' y 0 0 [.ref m] w (RI (.int (nI th)) w)) (hst : st0 = .ref m :: st) (hcat : (st.map fun v => v.category).sum ≤ 8) (hdd : d' + 1 ≤ d)
    (kk : JL sN sF d mi (pc + 3) lc (.int (nI th) :: st) w kb sb Q) : JL sN sF d mi pc lc st0 w kb sb Q := by
  refine JL_callV (As := []) (kb := kb) (sb := sb) (kb' := 0) (sb' := 0) hd hY hL (by rw [hyc]; exact hI.2.1.rc) (hM hI.2.1) rfl hst hcat hdd (fun v w' h => ?_) (fun E w' h => by cases h.1)
  obtain ⟨e, rfl⟩ := h
  cases e
  exact kk
end
theorem dcmp_sf {x : UInt64} (h : vf_n64 x) : Op.cmpValue (FP.dcmp x x) .l = 0 := by
  have h1 : x.toNat % 2 ^ 63 ≤ 9218868437227405312 := by
    unfold vf_n64 at h
    rw [UInt64.le_iff_toNat_le, UInt64.toNat_and] at h
    have e : (0x7fffffffffffffff : UInt64).toNat = 2 ^ 63 - 1 := by decide
    rw [e, Nat.and_two_pow_sub_one_eq_mod] at h
    exact h
  have h2 : FP.Core.dcmp x x = some .eq := FP.Core.dcmp_self ((FP.Core.ne_nan _).mpr h1)
  show Op.cmpValue (FP.Core.dcmp x x) .l = 0
  rw [h2]
  rfl
end JCASES

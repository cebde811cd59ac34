/-! THE LAW: its helpers where they are asked what is there; rules of calls -/
section JLRUL
theorem lv_on {G : Gme} {n b : Nat} {f : Nat → Nat × Int32} (hb : b < n) (hn : n < 2 ^ 31) : lvR (gQ G (onI n (nI b) f)) = lvR (gQ G (f b)) := by rw [onI_ok (vi_nI hb hn)]
theorem lv_onx {G : Gme} {n : Nat} {y : Int32} {f : Nat → Nat × Int32} (h : vi n y = none) : lvR (gQ G (onI n y f)) = -77 := by rw [onI_no h]; rfl
theorem lv_op {G : Gme} (o : Option Nat) : lvR (gQ G (opA o)) = oV o := by cases o <;> rfl
theorem lv_0 {G : Gme} {v : Int32} : lvR (gQ G (0, v)) = v := rfl
theorem lv_b2 {G : Gme} {S : St} {a b : Nat} {f : Nat → Nat → Nat × Int32} (ha : a < sNb S) (hb : b < sNb S) (hn : sNb S < 2 ^ 31) : lvR (gQ G (onB2 S (nI a) (nI b) f)) = lvR (gQ G (f a b)) := by rw [onB2_ok (vi_nI ha hn) (vi_nI hb hn)]
theorem RepX.wf {w : Wd} {x : Nat} {G : Gme} (hX : RepX w x G) : WF (gS G) := hX.2.1.wf
theorem RepX.nb31 {w : Wd} {x : Nat} {G : Gme} (hX : RepX w x G) : sNb (gS G) < 2 ^ 31 := by have := hX.wf.nb; omega
theorem RepX.nt31 {w : Wd} {x : Nat} {G : Gme} (hX : RepX w x G) : sNt (gS G) < 2 ^ 31 := by have := hX.wf.nt; omega
noncomputable def aT (S : St) (t : Nat) : Option Nat := match sGo S t with
  | none => none
  | some _ => tta S t
theorem h_length {w : Wd} {x b : Nat} {G : Gme} (hX : RepX w x G) (hb : b < sNb (gS G)) : MC 8 mL_length 1 6 [.ref x, .int (nI b)] w (HV w x G (nI (sLen (gS G) b))) := by
  have h := c_L_length hX (nI b)
  rw [lv_on hb hX.nb31, lv_0] at h
  exact h
theorem h_isCushion {w : Wd} {x b : Nat} {G : Gme} (hX : RepX w x G) (hb : b < sNb (gS G)) : MC 8 mL_isCushion 1 6 [.ref x, .int (nI b)] w (HV w x G (b2i (sCu (gS G) b))) := by
  have h := c_L_isCushion hX (nI b)
  rw [lv_on hb hX.nb31, lv_0] at h
  exact h
theorem h_hasCat {w : Wd} {x b : Nat} {G : Gme} (hX : RepX w x G) (hb : b < sNb (gS G)) : MC 8 mL_hasCat 1 6 [.ref x, .int (nI b)] w (HV w x G (b2i (sCa (gS G) b))) := by
  have h := c_L_hasCat hX (nI b)
  rw [lv_on hb hX.nb31, lv_0] at h
  exact h
theorem h_signal {w : Wd} {x b : Nat} {G : Gme} (hX : RepX w x G) (hb : b < sNb (gS G)) : MC 8 mL_signal 1 6 [.ref x, .int (nI b)] w (HV w x G (nI (sgn (gS G) b))) := by
  have h := c_L_signal hX (nI b)
  rw [lv_on hb hX.nb31, lv_0] at h
  exact h
theorem h_trainIn {w : Wd} {x b : Nat} {G : Gme} (hX : RepX w x G) (hb : b < sNb (gS G)) : MC 8 mL_trainIn 1 6 [.ref x, .int (nI b)] w (HV w x G (oV (tAt (gS G) b))) := by
  have h := c_L_trainIn hX (nI b)
  rw [lv_on hb hX.nb31, lv_op] at h
  exact h
theorem h_reservedBy {w : Wd} {x b : Nat} {G : Gme} (hX : RepX w x G) (hb : b < sNb (gS G)) : MC 8 mL_reservedBy 1 6 [.ref x, .int (nI b)] w (HV w x G (oV (hOf (gS G) b))) := by
  have h := c_L_reservedBy hX (nI b)
  rw [lv_on hb hX.nb31, lv_op] at h
  exact h
theorem h_nearestCushion {w : Wd} {x b : Nat} {G : Gme} (hX : RepX w x G) (hb : b < sNb (gS G)) : MC 8 mL_nearestCushion 1 6 [.ref x, .int (nI b)] w (HV w x G (oV (nrC (gS G) b))) := by
  have h := c_L_nearestCushion hX (nI b)
  rw [lv_on hb hX.nb31, lv_op] at h
  exact h
theorem h_blockOf {w : Wd} {x b : Nat} {G : Gme} (hX : RepX w x G) (hb : b < sNt (gS G)) : MC 8 mL_blockOf 1 6 [.ref x, .int (nI b)] w (HV w x G (nI (sPl (gS G) b))) := by
  have h := c_L_blockOf hX (nI b)
  rw [lv_on hb hX.nt31, lv_0] at h
  exact h
theorem h_priority {w : Wd} {x b : Nat} {G : Gme} (hX : RepX w x G) (hb : b < sNt (gS G)) : MC 8 mL_priority 1 6 [.ref x, .int (nI b)] w (HV w x G (nI (sPr (gS G) b))) := by
  have h := c_L_priority hX (nI b)
  rw [lv_on hb hX.nt31, lv_0] at h
  exact h
theorem h_remainingTicks {w : Wd} {x b : Nat} {G : Gme} (hX : RepX w x G) (hb : b < sNt (gS G)) : MC 8 mL_remainingTicks 1 6 [.ref x, .int (nI b)] w (HV w x G (nI (sRe (gS G) b))) := by
  have h := c_L_remainingTicks hX (nI b)
  rw [lv_on hb hX.nt31, lv_0] at h
  exact h
theorem h_isDerailed {w : Wd} {x b : Nat} {G : Gme} (hX : RepX w x G) (hb : b < sNt (gS G)) : MC 8 mL_isDerailed 1 6 [.ref x, .int (nI b)] w (HV w x G (b2i (sOf (gS G) b))) := by
  have h := c_L_isDerailed hX (nI b)
  rw [lv_on hb hX.nt31, lv_0] at h
  exact h
theorem h_waits {w : Wd} {x b : Nat} {G : Gme} (hX : RepX w x G) (hb : b < sNt (gS G)) : MC 8 mL_waits 1 6 [.ref x, .int (nI b)] w (HV w x G (sWa (gS G) b)) := by
  have h := c_L_waits hX (nI b)
  rw [lv_on hb hX.nt31, lv_0] at h
  exact h
theorem h_goal {w : Wd} {x b : Nat} {G : Gme} (hX : RepX w x G) (hb : b < sNt (gS G)) : MC 8 mL_goal 1 6 [.ref x, .int (nI b)] w (HV w x G (oV (sGo (gS G) b))) := by
  have h := c_L_goal hX (nI b)
  rw [lv_on hb hX.nt31, lv_op] at h
  exact h
theorem h_nextBlock {w : Wd} {x b : Nat} {G : Gme} (hX : RepX w x G) (hb : b < sNt (gS G)) : MC 8 mL_nextBlock 1 6 [.ref x, .int (nI b)] w (HV w x G (oV (nx (gS G) b))) := by
  have h := c_L_nextBlock hX (nI b)
  rw [lv_on hb hX.nt31, lv_op] at h
  exact h
theorem h_blockedBy {w : Wd} {x b : Nat} {G : Gme} (hX : RepX w x G) (hb : b < sNt (gS G)) : MC 8 mL_blockedBy 1 6 [.ref x, .int (nI b)] w (HV w x G (oV (bk (gS G) b))) := by
  have h := c_L_blockedBy hX (nI b)
  rw [lv_on hb hX.nt31, lv_op] at h
  exact h
theorem h_areLinked {w : Wd} {x a b : Nat} {G : Gme} (hX : RepX w x G) (ha : a < sNb (gS G)) (hb : b < sNb (gS G)) : MC 8 mL_areLinked 1 6 [.ref x, .int (nI a), .int (nI b)] w (HV w x G (b2i (sLk (gS G) a b))) := by
  have h := c_L_areLinked hX (nI a) (nI b)
  rw [lv_b2 ha hb hX.nb31, lv_0] at h
  exact h
theorem h_distance {w : Wd} {x a b : Nat} {G : Gme} (hX : RepX w x G) (ha : a < sNb (gS G)) (hb : b < sNb (gS G)) : MC 8 mL_distance 1 6 [.ref x, .int (nI a), .int (nI b)] w (HV w x G (oV (dS (gS G) a b))) := by
  have h := c_L_distance hX (nI a) (nI b)
  rw [lv_b2 ha hb hX.nb31, lv_op] at h
  exact h
theorem h_distanceByRounds {w : Wd} {x a b : Nat} {G : Gme} (hX : RepX w x G) (ha : a < sNb (gS G)) (hb : b < sNb (gS G)) : MC 8 mL_distanceByRounds 1 6 [.ref x, .int (nI a), .int (nI b)] w (HV w x G (oV (dS (gS G) a b))) := by
  have h := c_L_distanceByRounds hX (nI a) (nI b)
  rw [lv_b2 ha hb hX.nb31, lv_op] at h
  exact h
theorem h_trainByPriority {w : Wd} {x b : Nat} {G : Gme} (hX : RepX w x G) (hb : b < 2 ^ 31) : MC 8 mL_trainByPriority 1 6 [.ref x, .int (nI b)] w (HV w x G (oV (rkT (gS G) b))) := by
  have h := c_L_trainByPriority hX (nI b)
  rw [lv_op, rkX_n hX.wf hb] at h
  exact h
theorem h_ticksUntilArrival {w : Wd} {x b : Nat} {G : Gme} (hX : RepX w x G) (hb : b < sNt (gS G)) : MC 9 mL_ticksUntilArrival 1 6 [.ref x, .int (nI b)] w (HV w x G (oV (aT (gS G) b))) := by
  have h := c_L_ticksUntilArrival hX (nI b)
  have e : lvR (gQ G (qArr (gS G) (nI b))) = oV (aT (gS G) b) := by
    unfold aT
    cases hg : sGo (gS G) b with
    | none => rw [qArr_no2 (vi_nI hb hX.nt31) hg]; rfl
    | some g => rw [qArr_ok (vi_nI hb hX.nt31) hg, lv_op]
  rw [e] at h
  exact h
theorem h_goal_no {w : Wd} {x b : Nat} {G : Gme} (hX : RepX w x G) (hb : sNt (gS G) ≤ b) (h31 : b < 2 ^ 31) : MC 8 mL_goal 1 6 [.ref x, .int (nI b)] w (HV w x G (-77)) := by
  have h := c_L_goal hX (nI b)
  rw [lv_onx (vi_none hX.nt31 (Or.inr (nI_le hb h31)))] at h
  exact h
theorem h_ticksUntilArrival_no {w : Wd} {x b : Nat} {G : Gme} (hX : RepX w x G) (hb : sNt (gS G) ≤ b) (h31 : b < 2 ^ 31) : MC 9 mL_ticksUntilArrival 1 6 [.ref x, .int (nI b)] w (HV w x G (-77)) := by
  have h := c_L_ticksUntilArrival hX (nI b)
  rw [show lvR (gQ G (qArr (gS G) (nI b))) = -77 from by rw [qArr_no1 (vi_none hX.nt31 (Or.inr (nI_le hb h31)))]; rfl] at h
  exact h
section
variable {d : Nat} {mi : MI} {pc : Nat} {lc : List (Option Value)} {st : List Value} {w : Wd} {kb sb : Nat} {Q : Po}
/-- a helper of the law is called -/
theorem K_h {idx n d' : Nat} {y : MI} {As st0 : List Value} {x : Nat} {G : Gme} {v0 v : Int32} (hd : decode mi.2.1 pc = .ok (.invokestatic idx, 3)) (hh : headC y = .codeWith y.1 y.2.1 y.2.2.1 y.2.2.2.1 y.2.2.2.2) (hY : headC y ∈ AL ∧ Cond.initialized y.1.cls ∈ AL ∧ (y.1.cls ≠ "java/lang/invoke/MethodHandle" ∧ y.1.cls ≠ "java/lang/invoke/VarHandle" ∧ (parseMethodDescriptor y.1.desc).map (fun d => d.parameters.length) = some n) ∧ y.2.2.1 ≤ 40) (hL : Cond.methodLink mi.1.cls idx y.1 ∈ AL ∧ Cond.static y.1 ∈ AL)
    (hM : MC d' y 1 6 As w (HV w x G v0)) (hv : v0 = v) (hn : As.length = n) (hst : st0 = As.reverse ++ st) (hcat : (st.map fun v => v.category).sum ≤ 8) (hdd : d' + 1 ≤ d)
    (kk : ∀ w' : Wd, KP w w' x → RepX w' x G → J d mi (pc + 3) lc (.int v :: st) w' kb sb Q) : J d mi pc lc st0 w (kb + 1) (sb + 6) Q := by
  subst hv
  refine J_callSH hd hh hY hL hM hn hst hcat hdd (fun r w' q => ?_) (fun E w' q => absurd q (RP_no E w'))
  obtain ⟨r', e, rfl, k1, k2⟩ := q
  cases e
  exact kk w' k1 k2
/-- a method of the railway that answers and throws nothing -/
theorem K_hV {idx n d' : Nat} {y : MI} {As st0 : List Value} {x : Nat} {G : Gme} {v0 v : Int32} (hd : decode mi.2.1 pc = .ok (.invokevirtual idx, 3)) (hY : YL y n) (hL : Cond.methodLink mi.1.cls idx y.1 ∈ AL ∧ Cond.instanceMethod y.1 ∈ AL ∧ Cond.selects y.1.cls y.1 y.1 ∈ AL) (hrec : Rc w x y.1.cls)
    (hM : MC d' y 1 6 (.ref x :: As) w (GXo w x (gQ G (ok0 v0)))) (hv : v0 = v) (hn : As.length = n) (hst : st0 = As.reverse ++ .ref x :: st) (hcat : (st.map fun v => v.category).sum ≤ 8) (hdd : d' + 1 ≤ d)
    (kk : ∀ w' : Wd, KP w w' x → RepX w' x G → J d mi (pc + 3) lc (.int v :: st) w' kb sb Q) : J d mi pc lc st0 w (kb + 1) (sb + 6) Q := by
  subst hv
  refine J_callV hd hY hL hrec hM hn hst hcat hdd (fun r w' q => ?_) (fun E w' q => absurd q (GXo_ne E w'))
  obtain ⟨f, hX, ⟨-, e⟩ | ⟨e, -⟩⟩ := q
  · cases e
    exact kk w' (KP.fr f) hX
  · exact absurd rfl e
/-- a static method without a table, that throws nothing -/
theorem K_sc {idx n d' kb' sb' : Nat} {y : MI} {As st0 : List Value} {QY : Option Value → Wd → Prop} (hd : decode mi.2.1 pc = .ok (.invokestatic idx, 3)) (hY : YL y n) (hL : Cond.methodLink mi.1.cls idx y.1 ∈ AL ∧ Cond.static y.1 ∈ AL)
    (hM : MC d' y kb' sb' As w (RP QY)) (hn : As.length = n) (hst : st0 = As.reverse ++ st) (hcat : (st.map fun v => v.category).sum ≤ 8) (hdd : d' + 1 ≤ d)
    (kk : ∀ (r : Option Value) (w' : Wd), QY r w' → J d mi (pc + 3) lc (r.toList ++ st) w' kb sb Q) : J d mi pc lc st0 w (kb + kb') (sb + sb') Q :=
  J_callS hd hY hL hM hn hst hcat hdd (fun r w' q => by
    obtain ⟨r', e, q⟩ := q
    cases e
    exact kk _ _ q) (fun E w' q => absurd q (RP_no E w'))
theorem RepX.up {w1 w2 : Wd} {x a : Nat} {G : Gme} {c : Ce} (hX : RepX w1 x G) (u : Up w1 w2 a c) (ha : a < x ∨ x + 126 ≤ a) : RepX w2 x G := hX.kp (fun b h1 h2 => u.2.1 b (by omega))
theorem nd_l {y : Nat × vp_A} : (Sum.inl y : Ce) ≠ dead := fun e => by cases e
end
end JLRUL

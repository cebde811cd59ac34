/-! RULES MORE: arrays at an index that is a number; the posts of the changes -/
section JRULES2
variable {d : Nat} {mi : MI} {pc : Nat} {lc : List (Option Value)} {st : List Value} {w : Wd} {kb sb : Nat} {Q : Po}
theorem K_iald {a n k : Nat} {f : Nat → Int32} {v : Int32} (hd : decode mi.2.1 pc = .ok (.iaload, 1)) (ha : w.1 a = .inl (0, n, .inl f)) (hk : k < n) (hn : n < 2 ^ 31) (hv : f k = v) (kk : J d mi (pc + 1) lc (.int v :: st) w kb sb Q) : J d mi pc lc (.int (nI k) :: .ref a :: st) w kb sb Q := K_iaload hd ha (vp_in_nI hk hn) (by rw [nI_clamp (Nat.lt_trans hk hn)]; exact hv) kk
theorem K_cald {a n k : Nat} {f : Nat → Int32} {v : Int32} (hd : decode mi.2.1 pc = .ok (.caload, 1)) (ha : w.1 a = .inl (1, n, .inl f)) (hk : k < n) (hn : n < 2 ^ 31) (hv : f k = v) (kk : J d mi (pc + 1) lc (.int v :: st) w kb sb Q) : J d mi pc lc (.int (nI k) :: .ref a :: st) w kb sb Q := K_caload hd ha (vp_in_nI hk hn) (by rw [nI_clamp (Nat.lt_trans hk hn)]; exact hv) kk
theorem K_lald {a n k : Nat} {f : Nat → Int64} {v : Int64} (hd : decode mi.2.1 pc = .ok (.laload, 1)) (ha : w.1 a = .inl (2, n, .inr (.inl f))) (hk : k < n) (hn : n < 2 ^ 31) (hv : f k = v) (kk : J d mi (pc + 1) lc (.long v :: st) w kb sb Q) : J d mi pc lc (.int (nI k) :: .ref a :: st) w kb sb Q := K_laload hd ha (vp_in_nI hk hn) (by rw [nI_clamp (Nat.lt_trans hk hn)]; exact hv) kk
theorem K_aald {a n k : Nat} {f : Nat → Option Nat} {b : Nat} (hd : decode mi.2.1 pc = .ok (.aaload, 1)) (ha : w.1 a = .inl (4, n, .inr (.inr (.inr (.inr f))))) (hk : k < n) (hn : n < 2 ^ 31) (hv : f k = some b) (kk : J d mi (pc + 1) lc (.ref b :: st) w kb sb Q) : J d mi pc lc (.int (nI k) :: .ref a :: st) w kb sb Q := K_aaload hd ha (vp_in_nI hk hn) (by rw [nI_clamp (Nat.lt_trans hk hn)]; exact hv) kk
theorem K_iast {a n k : Nat} {f : Nat → Int32} {x : Int32} (hd : decode mi.2.1 pc = .ok (.iastore, 1)) (ha : w.1 a = .inl (0, n, .inl f)) (hk : k < n) (hn : n < 2 ^ 31) (kk : ∀ w' : Wd, Up w w' a (.inl (0, n, .inl (va_up f k x))) → J d mi (pc + 1) lc st w' kb sb Q) : J d mi pc lc (.int x :: .int (nI k) :: .ref a :: st) w kb sb Q := K_iastore hd ha (vp_in_nI hk hn) (fun w' u => kk w' (by rw [nI_clamp (Nat.lt_trans hk hn)] at u; exact u))
theorem K_cast {a n k : Nat} {f : Nat → Int32} {x : Int32} (hd : decode mi.2.1 pc = .ok (.castore, 1)) (ha : w.1 a = .inl (1, n, .inl f)) (hk : k < n) (hn : n < 2 ^ 31) (kk : ∀ w' : Wd, Up w w' a (.inl (1, n, .inl (va_up f k (vp_nar .char x)))) → J d mi (pc + 1) lc st w' kb sb Q) : J d mi pc lc (.int x :: .int (nI k) :: .ref a :: st) w kb sb Q := K_castore hd ha (vp_in_nI hk hn) (fun w' u => kk w' (by rw [nI_clamp (Nat.lt_trans hk hn)] at u; exact u))
theorem K_last {a n k : Nat} {f : Nat → Int64} {x : Int64} (hd : decode mi.2.1 pc = .ok (.lastore, 1)) (ha : w.1 a = .inl (2, n, .inr (.inl f))) (hk : k < n) (hn : n < 2 ^ 31) (kk : ∀ w' : Wd, Up w w' a (.inl (2, n, .inr (.inl (va_up f k x)))) → J d mi (pc + 1) lc st w' kb sb Q) : J d mi pc lc (.long x :: .int (nI k) :: .ref a :: st) w kb sb Q := K_lastore hd ha (vp_in_nI hk hn) (fun w' u => kk w' (by rw [nI_clamp (Nat.lt_trans hk hn)] at u; exact u))
/-- a call without exceptions: the answer and the world behind it have the property QY -/
theorem K_callSp {idx n d' : Nat} {y : MI} {As st0 : List Value} {QY : Option Value → Wd → Prop} (hd : decode mi.2.1 pc = .ok (.invokestatic idx, 3)) (hY : YL y n) (hL : Cond.methodLink mi.1.cls idx y.1 ∈ AL ∧ Cond.static y.1 ∈ AL) (hM : MC d' y 0 0 As w (fun r w' => ∃ v, r = .inl v ∧ QY v w')) (hn : As.length = n) (hst : st0 = As.reverse ++ st) (hcat : (st.map fun v => v.category).sum ≤ 8) (hdd : d' + 1 ≤ d) (kk : ∀ v w', QY v w' → J d mi (pc + 3) lc (v.toList ++ st) w' kb sb Q) : J d mi pc lc st0 w kb sb Q :=
  J_callS hd hY hL hM hn hst hcat hdd (fun v' w' ⟨v, e1, e2⟩ => by cases e1; exact kk _ _ e2) (fun E w' ⟨v, e1, e2⟩ => by cases e1)
theorem K_callIp {idx n d' kb' sb' : Nat} {y : MI} {a : Nat} {As st0 : List Value} {QY : Option Value → Wd → Prop} (hd : decode mi.2.1 pc = .ok (.invokespecial idx, 3)) (hY : YL y n) (hr : y.2.2.2.1 = none) (hy : y.1.name = "<init>") (hL : Cond.methodLink mi.1.cls idx y.1 ∈ AL ∧ Cond.instanceMethod y.1 ∈ AL) (hM : MC d' y kb' sb' (.ref a :: As) w (fun r w' => ∃ v, r = .inl v ∧ QY v w')) (hn : As.length = n) (hst : st0 = As.reverse ++ .ref a :: st) (hcat : (st.map fun v => v.category).sum ≤ 8) (hdd : d' + 1 ≤ d) (kk : ∀ v w', QY v w' → J d mi (pc + 3) lc (v.toList ++ st) w' kb sb Q) : J d mi pc lc st0 w (kb + kb') (sb + sb') Q :=
  J_callI hd hY hr hy hL hM (fun E w' ⟨v, e1, e2⟩ => by cases e1) hn hst hcat hdd (fun v' w' ⟨v, e1, e2⟩ => by cases e1; exact kk _ _ e2)
theorem K_callINp {idx n d' kb' sb' : Nat} {y : MI} {a : Nat} {As st0 : List Value} {host : String} {QY : Option Value → Wd → Prop} (hd : decode mi.2.1 pc = .ok (.invokespecial idx, 3)) (hY : YL y n) (hr : y.2.2.2.1 = none) (hy : y.1.name = "<init>") (hL : (mi.1.cls, idx, y.1, host) ∈ SFM ∧ Cond.instanceMethod y.1 ∈ AL) (hM : MC d' y kb' sb' (.ref a :: As) w (fun r w' => ∃ v, r = .inl v ∧ QY v w')) (hn : As.length = n) (hst : st0 = As.reverse ++ .ref a :: st) (hcat : (st.map fun v => v.category).sum ≤ 8) (hdd : d' + 1 ≤ d) (kk : ∀ v w', QY v w' → J d mi (pc + 3) lc (v.toList ++ st) w' kb sb Q) : J d mi pc lc st0 w (kb + kb') (sb + sb') Q :=
  J_callIN hd hY hr hy hL hM (fun E w' ⟨v, e1, e2⟩ => by cases e1) hn hst hcat hdd (fun v' w' ⟨v, e1, e2⟩ => by cases e1; exact kk _ _ e2)
/-- a call's post: no exception -/
def RP (QY : Option Value → Wd → Prop) : Po := fun r w' => ∃ v, r = .inl v ∧ QY v w'
theorem RP_i {QY : Option Value → Wd → Prop} {v : Option Value} {w : Wd} (h : QY v w) : RP QY (.inl v) w := ⟨v, rfl, h⟩
theorem RP_no {QY : Option Value → Wd → Prop} (E : String) (w : Wd) : ¬ RP QY (.inr E) w := fun ⟨v, e, _⟩ => by cases e
def refC : Nat → Int32
  | 1 => -11
  | 2 => -12
  | 3 => -13
  | 4 => -14
  | _ => -15
def ansC (R : Rs) : Int32 := if R.1 = 0 then R.2.1 else refC R.1
/-- a change of the layout at a -/
def PS (w : Wd) (a : Nat) (R : Rs) : Option Value → Wd → Prop := fun v w' => v = some (.int (ansC R)) ∧ RepC w' a R.2.2 ∧ Fr w w' a (a + 9)
theorem PS_no {w : Wd} {a : Nat} {S : St} (h : RepC w a S) {R : Rs} {c : Nat} {x : Int32} (e : R = (c + 1, 0, S)) (hx : refC (c + 1) = x) : RP (PS w a R) (.inl (some (.int x))) w := by
  subst e
  subst hx
  exact RP_i ⟨rfl, h, Fr.rf _ _ _⟩
theorem PS_ok {w w' : Wd} {a : Nat} {S S' : St} {R : Rs} {x : Int32} (e : R = (0, x, S')) (h : RepC w' a S') (f : Fr w w' a (a + 9)) : RP (PS w a R) (.inl (some (.int x))) w' := by
  subst e
  exact RP_i ⟨rfl, h, f⟩
theorem nI_half : ∀ m, m < 256 → nI (2 * m) / nI 2 = nI m := by decide +kernel
theorem nI_sub {a b : Nat} (h : b ≤ a) : nI a - nI b = nI (a - b) := by
  have := nI_add (a - b) b
  rw [Nat.sub_add_cancel h] at this
  rw [← this, Int32.add_sub_cancel]
theorem oI_lt0 {o : Option Nat} (h : ∀ k, o = some k → k < 2 ^ 31) : oI o < 0 ↔ o = none := by
  cases o with
  | none => exact ⟨fun _ => rfl, fun _ => by decide⟩
  | some k => exact ⟨fun e => absurd e (nI_pos (h k rfl)), fun e => by cases e⟩
end JRULES2

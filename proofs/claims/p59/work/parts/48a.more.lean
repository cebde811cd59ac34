/-! MORE RULES: what is made behind a throw, longs, bytes, rows of rows -/
section JMORE
variable {d : Nat} {mi : MI} {pc : Nat} {lc : List (Option Value)} {st : List Value} {w : Wd} {kb sb : Nat} {Q : Po}
/-- the world is as new again: what is made next has the next number, whatever was thrown -/
theorem J_fresh (k : ∀ n : Nat, (∀ a, w.1 a = dead ∨ (100 ≤ a ∧ a < 100 + n)) → J d mi pc lc st (w.1, n, true) kb sb Q) : J d mi pc lc st w kb sb Q := by
  intro p l e R s m args below meth c z sa D dA Z mc ms C h1 h2 h3 h4 h5 H locs cells slots ls hR hS hl h6 h7
  have hz : z ≤ H.size := Nat.le_trans C.hz hS.1
  have hw : ∀ a : Nat, w.1 a = dead ∨ (100 ≤ a ∧ a < 100 + (H.size - z) ∧ va_at D vwCl (adr sa z a, tr sa z dA (w.1 a)) H) := fun a => by
    rcases hR.2 a with e | ⟨e1, e2, e3⟩
    · exact Or.inl e
    · have h9 : adr sa z a < H.size := e3.lt
      rw [adr_ge e1] at h9
      exact Or.inr ⟨e1, by omega, e3⟩
  exact k (H.size - z) (fun a => (hw a).imp id (fun q => ⟨q.1, q.2.1⟩)) p l e R s m args below meth c z sa D dA Z mc ms C h1 h2 h3 h4 h5 H locs cells slots ls ⟨fun _ => by show H.size = z + (H.size - z); omega, hw⟩ hS hl h6 h7
/-- a cell that is new: its number a is above all that live -/
def NewC (w w' : Wd) (a : Nat) (c : Ce) : Prop := w'.1 a = c ∧ w.1 a = dead ∧ (∀ b : Nat, b ≠ a → w'.1 b = w.1 b) ∧ 100 ≤ a ∧ ∀ b : Nat, w.1 b ≠ dead → b < a
theorem nwC {n : Nat} (h : ∀ a, w.1 a = dead ∨ (100 ≤ a ∧ a < 100 + n)) (c : Ce) : NewC w (nwW (w.1, n, true) c) (100 + n) c := by
  refine ⟨?_, ?_, fun b hb => ?_, by omega, fun b hb => ?_⟩
  · show (if 100 + n = 100 + n then c else _) = c
    rw [if_pos rfl]
  · rcases h (100 + n) with e | e
    · exact e
    · omega
  · show (if b = 100 + n then c else w.1 b) = w.1 b
    rw [if_neg hb]
  · rcases h b with e | e
    · exact absurd e hb
    · omega
theorem J_ladd {x y : Int64} (hd : decode mi.2.1 pc = .ok (.ladd, 1)) (k : J d mi (pc + 1) lc (.long (x + y) :: st) w kb sb Q) : J d mi pc lc (.long y :: .long x :: st) w kb sb Q := by
  intro p l e R s m args below meth c z sa D dA Z mc ms C h1 h2 h3 h4 h5 H locs cells slots ls hR hS hl h6 h7
  exact lv_ladd C.1.1 C.1.2.1 hd (k p l e R s m args below meth c z sa D dA Z mc ms C h1 h2 h3 h4 h5 H locs cells slots ls hR hS hl h6 h7)
theorem J_lmul {x y : Int64} (hd : decode mi.2.1 pc = .ok (.lmul, 1)) (k : J d mi (pc + 1) lc (.long (x * y) :: st) w kb sb Q) : J d mi pc lc (.long y :: .long x :: st) w kb sb Q := by
  intro p l e R s m args below meth c z sa D dA Z mc ms C h1 h2 h3 h4 h5 H locs cells slots ls hR hS hl h6 h7
  exact lv_lmul C.1.1 C.1.2.1 hd (k p l e R s m args below meth c z sa D dA Z mc ms C h1 h2 h3 h4 h5 H locs cells slots ls hR hS hl h6 h7)
theorem J_ineg {x v : Int32} (hd : decode mi.2.1 pc = .ok (.ineg, 1)) (hv : -x = v) (k : J d mi (pc + 1) lc (.int v :: st) w kb sb Q) : J d mi pc lc (.int x :: st) w kb sb Q := by
  subst hv
  intro p l e R s m args below meth c z sa D dA Z mc ms C h1 h2 h3 h4 h5 H locs cells slots ls hR hS hl h6 h7
  exact lv_ineg C.1.1 C.1.2.1 hd (k p l e R s m args below meth c z sa D dA Z mc ms C h1 h2 h3 h4 h5 H locs cells slots ls hR hS hl h6 h7)
theorem J_ldc2 {idx : Nat} {v : Int64} (hd : decode mi.2.1 pc = .ok (.ldc2_w idx, 3)) (hL : Cond.constantLong mi.1.cls idx v ∈ AL) (k : J d mi (pc + 3) lc (.long v :: st) w kb sb Q) : J d mi pc lc st w kb sb Q := by
  intro p l e R s m args below meth c z sa D dA Z mc ms C h1 h2 h3 h4 h5 H locs cells slots ls hR hS hl h6 h7
  exact lv_ldc2 C.1.1 C.1.2.1 C.own (C.hts _ hL) hd (k p l e R s m args below meth c z sa D dA Z mc ms C h1 h2 h3 h4 h5 H locs cells slots ls hR hS hl h6 h7)
theorem J_ldc2d {idx : Nat} {v : UInt64} (hd : decode mi.2.1 pc = .ok (.ldc2_w idx, 3)) (hL : Cond.constantDouble mi.1.cls idx v ∈ AL) (k : J d mi (pc + 3) lc (.double v :: st) w kb sb Q) : J d mi pc lc st w kb sb Q := by
  intro p l e R s m args below meth c z sa D dA Z mc ms C h1 h2 h3 h4 h5 H locs cells slots ls hR hS hl h6 h7
  exact lv_ldc2d C.1.1 C.1.2.1 C.own (C.hts _ hL) hd (k p l e R s m args below meth c z sa D dA Z mc ms C h1 h2 h3 h4 h5 H locs cells slots ls hR hS hl h6 h7)
theorem J_ldcf {idx : Nat} {v : UInt32} (hd : decode mi.2.1 pc = .ok (.ldc idx, 2)) (hL : Cond.constantFloat mi.1.cls idx v ∈ AL) (k : J d mi (pc + 2) lc (.float v :: st) w kb sb Q) : J d mi pc lc st w kb sb Q := by
  intro p l e R s m args below meth c z sa D dA Z mc ms C h1 h2 h3 h4 h5 H locs cells slots ls hR hS hl h6 h7
  exact lv_ldcf C.1.1 C.1.2.1 C.own (C.hts _ hL) hd (k p l e R s m args below meth c z sa D dA Z mc ms C h1 h2 h3 h4 h5 H locs cells slots ls hR hS hl h6 h7)
theorem J_ldci {idx : Nat} {v : Int32} (hd : decode mi.2.1 pc = .ok (.ldc idx, 2)) (hL : Cond.constant mi.1.cls idx v ∈ AL) (k : J d mi (pc + 2) lc (.int v :: st) w kb sb Q) : J d mi pc lc st w kb sb Q := by
  intro p l e R s m args below meth c z sa D dA Z mc ms C h1 h2 h3 h4 h5 H locs cells slots ls hR hS hl h6 h7
  exact lv_ldc C.1.1 C.1.2.1 C.own (C.hts _ hL) hd (k p l e R s m args below meth c z sa D dA Z mc ms C h1 h2 h3 h4 h5 H locs cells slots ls hR hS hl h6 h7)
theorem J_lstore {i : Nat} {x : Int64} (hd : decode mi.2.1 pc = .ok (.lstore i, 2)) (hn : i + 1 < mi.2.2.1) (hok : okst lc i = true) (k : J d mi (pc + 2) ((lc.set i (some (.long x))).set (i + 1) none) st w kb sb Q) : J d mi pc lc (.long x :: st) w kb sb Q := by
  intro p l e R s m args below meth c z sa D dA Z mc ms C h1 h2 h3 h4 h5 H locs cells slots ls hR hS hl h6 h7
  exact lv_lstore C.1.1 C.1.2.1 hd hl.has hn rfl (fun ls' h' => (k p l e R s m args below meth c z sa D dA Z mc ms C h1 h2 h3 h4 h5 H locs cells slots ls' hR hS (lrel.store2 (x := .long x) (fun _ h => h) hok h') h6 h7))
theorem J_lstore_n {n : Fin 4} {i : Nat} {x : Int64} (hd : decode mi.2.1 pc = .ok (.lstore_n n, 1)) (hi : (n : Nat) = i) (hn : i + 1 < mi.2.2.1) (hok : okst lc i = true) (k : J d mi (pc + 1) ((lc.set i (some (.long x))).set (i + 1) none) st w kb sb Q) : J d mi pc lc (.long x :: st) w kb sb Q := by
  intro p l e R s m args below meth c z sa D dA Z mc ms C h1 h2 h3 h4 h5 H locs cells slots ls hR hS hl h6 h7
  exact lv_lstore_n C.1.1 C.1.2.1 hd hi hl.has hn rfl (fun ls' h' => (k p l e R s m args below meth c z sa D dA Z mc ms C h1 h2 h3 h4 h5 H locs cells slots ls' hR hS (lrel.store2 (x := .long x) (fun _ h => h) hok h') h6 h7))
theorem J_baload {a n : Nat} {f : Nat → Int32} {i : Int32} (hd : decode mi.2.1 pc = .ok (.baload, 1)) (ha : w.1 a = .inl (3, n, .inl f)) (hi : vp_in i n) (kk : J d mi (pc + 1) lc (.int (f i.toNatClampNeg) :: st) w kb sb Q) : J d mi pc lc (.int i :: .ref a :: st) w kb sb Q := by
  intro p l e R s m args below meth c z sa D dA Z mc ms C h1 h2 h3 h4 h5 H locs cells slots ls hR hS hl h6 h7
  obtain ⟨g1, g2, g3⟩ := hR.at ha (inl_nd _)
  exact va_bald (tys := tyL dA) C.1.1 C.1.2.1 C.hK (one_P g3) 0 3 (cA := dA 3) (n := n) (f := f) rfl rfl hi hd (kk p l e R s m args below meth c z sa D dA Z mc ms C h1 h2 h3 h4 h5 H locs cells slots ls hR hS hl h6 h7)
theorem J_bastore {a n : Nat} {f : Nat → Int32} {i : Int32} {x : Int32} (hd : decode mi.2.1 pc = .ok (.bastore, 1)) (ha : w.1 a = .inl (3, n, .inl f)) (hi : vp_in i n) (kk : J d mi (pc + 1) lc st (upW w a (.inl (3, n, .inl (upd f i.toNatClampNeg (vp_nar .byte x))))) kb sb Q) : J d mi pc lc (.int x :: .int i :: .ref a :: st) w kb sb Q := by
  intro p l e R s m args below meth c z sa D dA Z mc ms C h1 h2 h3 h4 h5 H locs cells slots ls hR hS hl h6 h7
  obtain ⟨g1, g2, g3⟩ := hR.at ha (inl_nd _)
  have g4 : H[adr sa z a]? = some (vp_cell (dA 3) (n, .inl f)) := g3
  refine W.bast C.1.1 C.1.2.1 g4 ((C.hK.2 3 _ rfl).1 n (fun j => .int (f j))) (fun q => by cases q) (by show ¬ (i < 0 ∨ (arrV _ _ _).slots.size ≤ _); rw [arrV_size]; exact hi) rfl rfl hd fun H1 e1 zq oq => ?_
  refine kk p l e R s m args below meth c z sa D dA Z mc ms C h1 h2 h3 h4 h5 H1 _ cells slots ls (hR.set ha (inl_nd _) zq oq ?_) (hS.put zq oq (by show z ≤ _; rw [adr_ge g1]; omega)) hl h6 h7
  show H1[adr sa z a]? = some (vp_cell (dA 3) (n, .inl (upd f i.toNatClampNeg (vp_nar .byte x))))
  rw [e1]
  rw [vp_cell_i, vp_cell_i, arrV_store]
  congr 2
  funext q
  by_cases hq : q = i.toNatClampNeg
  · subst hq
    simp [updV, upd, vp_nar]
    try rfl
  · simp [updV, upd, hq]
theorem J_newa_byte {x : Int32} {N : Nat} (hd : decode mi.2.1 pc = .ok (.newarray .byte, 2)) (hw : Cond.arrayClass (newarray.typeOf .byte) ∈ AL) (hx : ¬ x < 0) (hN : x.toNatClampNeg = N) (hB : N * 8 ≤ 536870912) (hf : w.2.2 = true) (kk : J d mi (pc + 2) lc (.ref (100 + w.2.1) :: st) (nwW w (.inl (3, N, .inl fun _ => 0))) kb sb Q) : J d mi pc lc (.int x :: st) w (kb + 1) (sb + N) Q := by
  intro p l e R s m args below meth c z sa D dA Z mc ms C h1 h2 h3 h4 h5 H locs cells slots ls hR hS hl h6 h7
  refine va_newaK (atype := .byte) C.1.1 C.1.2.1 (C.hts _ hw) rfl hd rfl hx hN (by show N * 1 ≤ _; omega) (by omega) (by omega) rfl fun H1 cA e1 z1 o1 hA hcA => ?_
  have hcA' : cA = dA 3 := Option.some.inj (hcA.symm.trans (C.hK.2 3 _ rfl).2)
  subst hcA'
  have hadr : adr sa z (100 + w.2.1) = H.size := by rw [adr_ge (by omega), hR.1 hf]; omega
  have hs : va_S (Az z) s.heap H1 locs := ⟨Nat.le_trans hS.1 (by omega), fun x a1 a2 => (o1 x (Nat.lt_of_lt_of_le a1 hS.1)).trans (hS.2.1 x a1 a2), hS.2.2⟩
  have k := kk p l e R s m args below meth c z sa D dA Z mc ms C h1 h2 h3 h4 h5 H1 locs (cells + 1) (slots + N) ls (hR.new hf z1 o1 (x := .inl (3, N, .inl fun _ => 0)) e1) hs hl (by omega) (by omega)
  show W p l e R s m args below meth c H1 locs (cells + 1) (slots + N) Z (F0 m (pc + 2) ls (.ref H.size :: st.map (mv sa z)))
  rw [← hadr]
  exact k
theorem F_newa_int {x : Int32} {N : Nat} (hd : decode mi.2.1 pc = .ok (.newarray .int, 2)) (hw : Cond.arrayClass (newarray.typeOf .int) ∈ AL) (hx : ¬ x < 0) (hN : x.toNatClampNeg = N) (hB : N * 8 ≤ 536870912) (kk : ∀ (a : Nat) (w' : Wd), NewC w w' a (.inl (0, N, .inl fun _ => 0)) → J d mi (pc + 2) lc (.ref a :: st) w' kb sb Q) : J d mi pc lc (.int x :: st) w (kb + 1) (sb + N) Q :=
  J_fresh fun n hn => J_newa_int (w := (w.1, n, true)) hd hw hx hN hB rfl (kk _ _ (nwC hn _))
theorem F_newa_long {x : Int32} {N : Nat} (hd : decode mi.2.1 pc = .ok (.newarray .long, 2)) (hw : Cond.arrayClass (newarray.typeOf .long) ∈ AL) (hx : ¬ x < 0) (hN : x.toNatClampNeg = N) (hB : N * 8 ≤ 536870912) (kk : ∀ (a : Nat) (w' : Wd), NewC w w' a (.inl (2, N, .inr (.inl fun _ => 0))) → J d mi (pc + 2) lc (.ref a :: st) w' kb sb Q) : J d mi pc lc (.int x :: st) w (kb + 1) (sb + N) Q :=
  J_fresh fun n hn => J_newa_long (w := (w.1, n, true)) hd hw hx hN hB rfl (kk _ _ (nwC hn _))
theorem F_newa_byte {x : Int32} {N : Nat} (hd : decode mi.2.1 pc = .ok (.newarray .byte, 2)) (hw : Cond.arrayClass (newarray.typeOf .byte) ∈ AL) (hx : ¬ x < 0) (hN : x.toNatClampNeg = N) (hB : N * 8 ≤ 536870912) (kk : ∀ (a : Nat) (w' : Wd), NewC w w' a (.inl (3, N, .inl fun _ => 0)) → J d mi (pc + 2) lc (.ref a :: st) w' kb sb Q) : J d mi pc lc (.int x :: st) w (kb + 1) (sb + N) Q :=
  J_fresh fun n hn => J_newa_byte (w := (w.1, n, true)) hd hw hx hN hB rfl (kk _ _ (nwC hn _))
theorem F_new {idx ci N : Nat} {fs : List Value} (hd : decode mi.2.1 pc = .ok (.new idx, 3)) (hL : NL mi.1.cls idx ci N fs) (kk : ∀ (a : Nat) (w' : Wd), NewC w w' a (.inr (ci, fs)) → J d mi (pc + 3) lc (.ref a :: st) w' kb sb Q) : J d mi pc lc st w (kb + 1) (sb + N) Q :=
  J_fresh fun n hn => J_new (w := (w.1, n, true)) hd hL rfl (kk _ _ (nwC hn _))
/-! rows of rows -/
theorem outer_arrV (c : ClassId) (N h0 : Nat) : ∀ i, Jvm.Free.Multi.outerC c N h0 i = arrV c N (fun j => if j < i then .ref (h0 + 1 + j) else .null) := by
  intro i
  induction i with
  | zero =>
    rw [show (fun j : Nat => if j < 0 then Value.ref (h0 + 1 + j) else Value.null) = fun _ => Value.null from funext fun j => if_neg (Nat.not_lt_zero j), ← arrV_new]
    rfl
  | succ i ih =>
    show (Jvm.Free.Multi.outerC c N h0 i).setSlot i (.ref (h0 + 1 + i)) = _
    rw [ih, arrV_store]
    congr 1
    funext j
    unfold updV
    by_cases e : j = i
    · subst e
      simp
    · by_cases h : j < i
      · simp [e, h, Nat.lt_succ_of_lt h]
      · simp [e, h, show ¬ j < i + 1 by omega]
def rowsF (a N : Nat) : Nat → Option Nat := fun j => if j < N then some (a + 1 + j) else none
theorem J_mna {idx : Nat} {x : Int32} {N : Nat} (hd : decode mi.2.1 pc = .ok (.multianewarray idx 2, 4)) (hw : Cond.classLink mi.1.cls idx "[[I" ∈ AL) (hi : Cond.arrayClass .int ∈ AL) (hx : ¬ x < 0) (hN : x.toNatClampNeg = N) (hB : N * 8 ≤ 536870912)
    (kk : ∀ (a : Nat) (w' : Wd), w'.1 a = .inl (5, N, .inr (.inr (.inr (.inr (rowsF a N))))) → (∀ j, j < N → w'.1 (a + 1 + j) = .inl (0, N, .inl fun _ => 0)) → (∀ b, b < a → w'.1 b = w.1 b) → (∀ b, w.1 b ≠ dead → b < a) → J d mi (pc + 4) lc (.ref a :: st) w' kb sb Q) : J d mi pc lc (.int x :: .int x :: st) w (kb + (1 + N)) (sb + (N + N * N)) Q := by
  intro p l e R s m args below meth c z sa D dA Z mc ms C h1 h2 h3 h4 h5 H locs cells slots ls hR hS hl h6 h7 T hT X
  have hz : z ≤ H.size := Nat.le_trans C.hz hS.1
  obtain ⟨_, _, _, _, hAO⟩ := C.hF.2.2.2.2.2.2.2.2.2.2.2.2.2.2
  have hcl : (Cond.classLink mi.1.cls idx ("[" ++ (FieldType.array FieldType.int).toString)).before args s = true := by
    rw [show "[" ++ (FieldType.array FieldType.int).toString = "[[I" from by first | rfl | decide]
    exact C.hts _ hw
  obtain ⟨vm₁, cA, comp, -, fA, fC, -, -, X', step⟩ := X.multianewarray2F C.1.1 C.own hcl hAO (C.hts _ hi) (g := F0 m pc ls ((Value.int x :: .int x :: st).map (mv sa z))) rfl (by rw [C.1.2.1]; exact hd) (n := x) (k := x) (rest := st.map (mv sa z)) rfl hx hx (by rw [hN]; omega) (by rw [hN]; show N * 4 ≤ _; omega) (by rw [hN]; omega) rfl rfl (by rw [hN]; omega) (by rw [hN]; omega)
  rw [hN] at X' step
  have c5 : cA = dA 5 := Option.some.inj (fA.symm.trans (C.hK.2 5 _ rfl).2)
  have c0 : comp = dA 0 := Option.some.inj (fC.symm.trans (C.hK.2 0 _ rfl).2)
  subst c5
  subst c0
  have hTs : (T.setVm vm₁).heap = H := hT
  have f1 := (Jvm.Free.Multi.fill_facts (T.setVm vm₁) (dA 5) (dA 0) N N (defaultValue .int) N).1
  have f2 := (Jvm.Free.Multi.fill_facts (T.setVm vm₁) (dA 5) (dA 0) N N (defaultValue .int) N).2.1
  have f3 := fun (q : Nat) (hq : q < H.size) => Jvm.Free.Multi.fill_old (T.setVm vm₁) (dA 5) (dA 0) N N (defaultValue .int) (a := q) (by rw [hTs]; exact hq) N
  have f4 := Jvm.Free.Multi.fill_inner (T.setVm vm₁) (dA 5) (dA 0) N N (defaultValue .int) N
  rw [hTs] at f1 f2 f4
  rw [outer_arrV] at f2
  generalize hH1 : (Jvm.Free.Multi.fill (T.setVm vm₁) (dA 5) (dA 0) N N (defaultValue .int) N).heap = H1 at f1 f2 f3 f4
  have f3 : ∀ q : Nat, q < H.size → H1[q]? = H[q]? := fun q hq => by rw [f3 q hq, hTs]
  have hlive : ∀ b : Nat, w.1 b ≠ dead → b < 100 + (H.size - z) := fun b hb => by
    rcases hR.2 b with e | ⟨e1, e2, e3⟩
    · exact absurd e hb
    · have h9 : adr sa z b < H.size := e3.lt
      rw [adr_ge e1] at h9
      omega
  let w' : Wd := (fun b => if b = 100 + (H.size - z) then .inl (5, N, .inr (.inr (.inr (.inr (rowsF (100 + (H.size - z)) N))))) else if 100 + (H.size - z) < b ∧ b ≤ 100 + (H.size - z) + N then .inl (0, N, .inl fun _ => 0) else w.1 b, H.size - z + 1 + N, true)
  have hrel : Rel D dA sa z w' H1 := by
    refine ⟨fun _ => by rw [f1]; show _ = z + (H.size - z + 1 + N); omega, fun b => ?_⟩
    show (if b = 100 + (H.size - z) then _ else if 100 + (H.size - z) < b ∧ b ≤ 100 + (H.size - z) + N then _ else w.1 b) = dead ∨ (100 ≤ b ∧ b < 100 + (H.size - z + 1 + N) ∧ va_at D vwCl (adr sa z b, tr sa z dA (if b = 100 + (H.size - z) then _ else if 100 + (H.size - z) < b ∧ b ≤ 100 + (H.size - z) + N then _ else w.1 b)) H1)
    by_cases e1 : b = 100 + (H.size - z)
    · rw [if_pos e1]
      refine Or.inr ⟨by omega, by omega, ?_⟩
      show H1[adr sa z b]? = some (vp_cell (dA 5) (N, .inr (.inr (.inr (.inr fun j => (rowsF (100 + (H.size - z)) N j).map (adr sa z))))))
      rw [adr_ge (by omega), show z + (b - 100) = H.size by omega, f2, vp_cell_q]
      congr 2
      funext j
      unfold rowsF
      by_cases hj : j < N
      · rw [if_pos hj, if_pos hj]
        show _ = Value.ref (adr sa z (100 + (H.size - z) + 1 + j))
        rw [adr_ge (by omega)]
        exact congrArg Value.ref (show H.size + 1 + j = z + (100 + (H.size - z) + 1 + j - 100) by omega)
      · rw [if_neg hj, if_neg hj]
        rfl
    · rw [if_neg e1]
      by_cases e2 : 100 + (H.size - z) < b ∧ b ≤ 100 + (H.size - z) + N
      · rw [if_pos e2]
        refine Or.inr ⟨by omega, by omega, ?_⟩
        show H1[adr sa z b]? = some (vp_cell (dA 0) (N, .inl fun _ => 0))
        rw [adr_ge (by omega), show z + (b - 100) = H.size + 1 + (b - (100 + (H.size - z)) - 1) by omega, f4 _ (by omega), vp_cell_i, ← arrV_new]
        rfl
      · rw [if_neg e2]
        rcases hR.2 b with q | ⟨q1, q2, q3⟩
        · exact Or.inl q
        · by_cases hdd : w.1 b = dead
          · exact Or.inl hdd
          · have := hlive b hdd
            exact Or.inr ⟨q1, by omega, q3.kept (f3 _ q3.lt)⟩
  have hs : va_S (Az z) s.heap H1 locs := ⟨Nat.le_trans hS.1 (by omega), fun q a1 a2 => (f3 q (Nat.lt_of_lt_of_le a1 hS.1)).trans (hS.2.1 q a1 a2), hS.2.2⟩
  have hadr : adr sa z (100 + (H.size - z)) = T.heap.size := by rw [adr_ge (by omega), hT]; omega
  have k := kk (100 + (H.size - z)) w' (if_pos rfl) (fun j hj => by
    show (if 100 + (H.size - z) + 1 + j = 100 + (H.size - z) then _ else if 100 + (H.size - z) < 100 + (H.size - z) + 1 + j ∧ 100 + (H.size - z) + 1 + j ≤ 100 + (H.size - z) + N then _ else _) = _
    rw [if_neg (by omega), if_pos (by omega)]) (fun b hb => by
    show (if b = 100 + (H.size - z) then _ else if 100 + (H.size - z) < b ∧ b ≤ 100 + (H.size - z) + N then _ else w.1 b) = w.1 b
    rw [if_neg (by omega), if_neg (by omega)]) hlive p l e R s m args below meth c z sa D dA Z mc ms C h1 h2 h3 h4 h5 H1 locs (cells + 1 + N) (slots + N + N * N) ls hrel hs hl (by omega) (by omega)
  rw [List.map_cons, show mv sa z (.ref (100 + (H.size - z))) = .ref T.heap.size from congrArg Value.ref hadr] at k
  obtain ⟨t, a1, b1⟩ := k _ hH1 X'
  exact ⟨t, step t a1, b1⟩
theorem J_aaldR {a n : Nat} {f : Nat → Option Nat} {i : Int32} (hd : decode mi.2.1 pc = .ok (.aaload, 1)) (ha : w.1 a = .inl (5, n, .inr (.inr (.inr (.inr f))))) (hi : vp_in i n) (kk : J d mi (pc + 1) lc (ov (f i.toNatClampNeg) :: st) w kb sb Q) : J d mi pc lc (.int i :: .ref a :: st) w kb sb Q := by
  intro p l e R s m args below meth c z sa D dA Z mc ms C h1 h2 h3 h4 h5 H locs cells slots ls hR hS hl h6 h7
  obtain ⟨g1, g2, g3⟩ := hR.at ha (inl_nd _)
  have g4 : H[adr sa z a]? = some (vp_cell (dA 5) (n, .inr (.inr (.inr (.inr fun j => (f j).map (adr sa z)))))) := g3
  have hlt : i.toNatClampNeg < n := Nat.not_le.mp fun q => hi (Or.inr q)
  refine W.aald (v := va_rf ((f i.toNatClampNeg).map (adr sa z))) (ty := .array .int) C.1.1 C.1.2.1 g4 ((C.hK.2 5 _ rfl).1 n (fun j => va_rf ((f j).map (adr sa z)))) rfl (fun q => by cases q) (by show ¬ (i < 0 ∨ (arrV _ _ _).slots.size ≤ _); rw [arrV_size]; exact hi) (by show (arrV _ _ _).slots[_]? = _; rw [arrV_read _ _ hlt]) rfl rfl hd ?_
  have h := kk p l e R s m args below meth c z sa D dA Z mc ms C h1 h2 h3 h4 h5 H locs cells slots ls hR hS hl h6 h7
  rw [List.map_cons, ← ov_mv] at h
  exact h
theorem K_aaldR {a n k : Nat} {f : Nat → Option Nat} {b : Nat} (hd : decode mi.2.1 pc = .ok (.aaload, 1)) (ha : w.1 a = .inl (5, n, .inr (.inr (.inr (.inr f))))) (hk : k < n) (hn : n < 2 ^ 31) (hv : f k = some b) (kk : J d mi (pc + 1) lc (.ref b :: st) w kb sb Q) : J d mi pc lc (.int (nI k) :: .ref a :: st) w kb sb Q :=
  J_aaldR hd ha (vp_in_nI hk hn) (by rw [nI_clamp (Nat.lt_trans hk hn), hv]; exact kk)
end JMORE

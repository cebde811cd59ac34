/-! fields, arrays, things that are made, calls -/
section JHEAP
variable {d : Nat} {mi : MI} {pc : Nat} {lc : List (Option Value)} {st : List Value} {w : Wd} {kb sb : Nat} {Q : Po}
theorem Cx.hts {d : Nat} {mi : MI} {p : Program} {l : Launch} {R : Room} {s : State} {m : MethodId} {args : Array Value} {meth : Method} {c : Code} {z : Nat} {sa : Nat → Nat} {D : va_G} {dA : Nat → ClassId} (C : Cx d mi p l R s m args meth c z sa D dA) : ∀ w ∈ AL, w.before args s = true := C.1.2.2.2.2
theorem Cx.own {d : Nat} {mi : MI} {p : Program} {l : Launch} {R : Room} {s : State} {m : MethodId} {args : Array Value} {meth : Method} {c : Code} {z : Nat} {sa : Nat → Nat} {D : va_G} {dA : Nat → ClassId} (C : Cx d mi p l R s m args meth c z sa D dA) : s.vm.findClass mi.1.cls = some m.cls := C.1.2.2.2.1
theorem Cx.hK {d : Nat} {mi : MI} {p : Program} {l : Launch} {R : Room} {s : State} {m : MethodId} {args : Array Value} {meth : Method} {c : Code} {z : Nat} {sa : Nat → Nat} {D : va_G} {dA : Nat → ClassId} (C : Cx d mi p l R s m args meth c z sa D dA) : va_K D vwCl (tyL dA) s := C.2.2.2.2.2.2.2.1
theorem Cx.hF {d : Nat} {mi : MI} {p : Program} {l : Launch} {R : Room} {s : State} {m : MethodId} {args : Array Value} {meth : Method} {c : Code} {z : Nat} {sa : Nat → Nat} {D : va_G} {dA : Nat → ClassId} (C : Cx d mi p l R s m args meth c z sa D dA) : SF sa (Az z) s s.heap := C.2.2.2.2.2.2.2.2.1
theorem Cx.hz {d : Nat} {mi : MI} {p : Program} {l : Launch} {R : Room} {s : State} {m : MethodId} {args : Array Value} {meth : Method} {c : Code} {z : Nat} {sa : Nat → Nat} {D : va_G} {dA : Nat → ClassId} (C : Cx d mi p l R s m args meth c z sa D dA) : z ≤ s.heap.size := C.2.2.2.2.2.2.2.2.2
theorem Cx.room {d : Nat} {mi : MI} {p : Program} {l : Launch} {R : Room} {s : State} {m : MethodId} {args : Array Value} {meth : Method} {c : Code} {z : Nat} {sa : Nat → Nat} {D : va_G} {dA : Nat → ClassId} (C : Cx d mi p l R s m args meth c z sa D dA) : d ≤ R.frames ∧ 64 * d ≤ R.locals := C.2.2.2.2.2.2.1
/-- the field k of the objects ci, of the type ty, as the entry idx of the class own names it -/
def FL (own : String) (idx ci k : Nat) (ty : FieldType) (fin : Nat) : Prop :=
  ∃ (C : String) (T : u_T) (N : Nat) (tys : Nat → FieldType), vwCl[ci]? = some (C, T, N) ∧ k < N ∧ (∀ w ∈ u_ws C T N, w ∈ AL) ∧ (∀ j, j < N → parseFieldDescriptor (T j).2.2.1 = some (tys j)) ∧ (∀ a, a < N → ∀ b, b < N → a ≠ b → (T a).2.1 ≠ (T b).2.1) ∧
    Cond.fieldLink own idx (T k).1 (T k).2.1 (T k).2.2.1 ∈ AL ∧ tys k = ty ∧ ((fin = 0 ∧ (T k).2.2.2 = false) ∨ (fin = 1 ∧ (T k).2.2.2 = true ∧ (T k).1 = own) ∨ fin = 2)
theorem FL.ne_dead {own : String} {idx ci k : Nat} {ty : FieldType} {fin : Nat} (h : FL own idx ci k ty fin) (fs : List Value) : (Sum.inr (ci, fs) : Ce) ≠ dead := by
  obtain ⟨C, T, N, tys, hc, -⟩ := h
  intro e
  unfold dead at e
  injection e with e
  injection e with e1 e2
  subst e1
  rw [show vwCl[9999]? = none from rfl] at hc
  cases hc
theorem J_getfield {idx ci k : Nat} {ty : FieldType} {fin : Nat} {a : Nat} {fs : List Value} {v : Value} (hd : decode mi.2.1 pc = .ok (.getfield idx, 3)) (hL : FL mi.1.cls idx ci k ty fin) (ha : w.1 a = .inr (ci, fs)) (hv : fs[k]? = some v) (kk : J d mi (pc + 3) lc (v :: st) w kb sb Q) : J d mi pc lc (.ref a :: st) w kb sb Q := by
  intro p l e R s m args below meth c z sa D dA Z mc ms C h1 h2 h3 h4 h5 H locs cells slots ls hR hS hl h6 h7
  obtain ⟨g1, g2, g3⟩ := hR.at ha (hL.ne_dead fs)
  obtain ⟨CC, T, N, tys, hc, hk, hws, -, -, hlk, -, -⟩ := hL
  exact va_get (D := D) (cl := vwCl) (tys := tyL dA) (ws := [(adr sa z a, tr sa z dA (.inr (ci, fs)))]) C.1.1 C.1.2.1 C.hts hws C.own C.hK (fun k q hq => by
    cases k with
    | zero => cases hq; exact g3
    | succ k => cases hq) 0 rfl hc k hk (C.hts _ hlk) (fun _ h => h) (v := mv sa z v) (by simp [hv]) hd (kk p l e R s m args below meth c z sa D dA Z mc ms C h1 h2 h3 h4 h5 H locs cells slots ls hR hS hl h6 h7)
theorem mv_defv {sa : Nat → Nat} {z : Nat} (ty : FieldType) : mv sa z (defaultValue ty) = defaultValue ty := by cases ty <;> rfl
theorem J_putG {idx ci k : Nat} {ty : FieldType} {fin : Nat} {a : Nat} {fs : List Value} {v : Value} (hd : decode mi.2.1 pc = .ok (.putfield idx, 3)) (hL : FL mi.1.cls idx ci k ty fin) (hini : fin = 0 ∨ (fin = 1 ∧ mi.1.name = "<init>")) (ha : w.1 a = .inr (ci, fs)) (hlen : k < fs.length) (hn : ∀ sa z, narrow ty (mv sa z v) = mv sa z v) (hfit : ∀ sa z, fits ty (mv sa z v) = true) (kk : J d mi (pc + 3) lc st (upW w a (.inr (ci, fs.set k v))) kb sb Q) : J d mi pc lc (v :: .ref a :: st) w kb sb Q := by
  intro p l e R s m args below meth c z sa D dA Z mc ms C h1 h2 h3 h4 h5 H locs cells slots ls hR hS hl h6 h7
  have hnd := hL.ne_dead fs
  obtain ⟨g1, g2, g3⟩ := hR.at ha hnd
  obtain ⟨CC, T, N, tys, hc, hk, hws, htys, hnm, hlk, hty, hfin⟩ := hL
  have hap := va_apart (own := mi.1.cls) C.hts hws tys htys hnm C.hK hc
  obtain ⟨r, q0, cell, q1, q2, q3, q4⟩ := g3
  have hr : r = (CC, T, N) := Option.some.inj (q0.symm.trans hc)
  subst hr
  obtain ⟨hSl, hfc, kC, hkC, hkind⟩ := C.hK.1 ci _ hc
  obtain ⟨cf, kf, fi, f, hi, hsl⟩ := hSl k hk
  have hlays := u_lays C.hts hws hk
  obtain ⟨hst, hcast, hity⟩ := u_facts hfc hkC hlays hi
  obtain ⟨n1, n2⟩ := u_fits (v := mv sa z v) hfc hkC hkind hlays hi (htys k hk) (by rw [hty]; exact hn sa z) (by rw [hty]; exact hfit sa z)
  have hfl : hasFlag f.accessFlags Acc.final = false ∨ (m.cls = cf ∧ meth.name = "<init>") := by
    have hcase : (T k).2.2.2 = false ∨ ((T k).2.2.2 = true ∧ (T k).1 = mi.1.cls ∧ mi.1.name = "<init>") := by
      rcases hfin with ⟨-, h⟩ | ⟨e1, h, h'⟩ | e2
      · exact Or.inl h
      · rcases hini with e3 | ⟨-, e3⟩
        · omega
        · exact Or.inr ⟨h, h', e3⟩
      · rcases hini with e3 | ⟨e3, -⟩ <;> omega
    rcases hcase with hfb | ⟨hfb, hdec, hin2⟩
    · refine Or.inl ?_
      have hlay := C.hts _ (hws _ (u_in_lay hk))
      unfold u_lay at hlay
      rw [if_neg (by rw [hfb]; decide)] at hlay
      exact (u_store (v := mv sa z v) hfc hkC hkind hlay hi (htys k hk) (by rw [hty]; exact hn sa z) (by rw [hty]; exact hfit sa z)).1
    · refine Or.inr ⟨?_, by rw [C.2.2.2.1]; exact hin2⟩
      have hlay := C.hts _ (hws _ (u_in_lay hk))
      unfold u_lay at hlay
      rw [if_pos hfb] at hlay
      obtain ⟨_, _, c', _, _, _, -, -, hf', -, -, -, hown2, -⟩ := Cond.laysFinal_spec hlay
      have e1 : c' = cf := by have := hi.symm.trans hf'; simp at this; exact this.1.symm
      rw [hdec] at hown2
      rw [← e1]
      exact Option.some.inj (C.own.symm.trans hown2)
  have hlt : f.slot < cell.slots.size := by
    rw [hsl]
    exact k2_hasslot (q4 k hk)
  refine W.of (H' := H.setIfInBounds (adr sa z a) (cell.setSlot f.slot (mv sa z v))) (locs' := locs ++ [⟨adr sa z a, f.slot⟩]) (cells' := cells) (slots' := slots) (g2 := F0 m (pc + 3) ls (st.map (mv sa z))) (fun T0 hT X => ?_) ?_
  · subst hT
    obtain ⟨vm', X', stp⟩ := X.putfield C.1.1 C.own (C.hts _ hlk) hi hst hfl q1 (by rw [q3]; exact fun h => by cases h) hlt n1 (by rw [q2, q3]; exact n2) (g := F0 m pc ls ((v :: .ref a :: st).map (mv sa z))) rfl rfl (by rw [C.1.2.1]; exact hd)
    exact ⟨_, rfl, X', stp⟩
  · have ha' : adr sa z a < H.size := (Array.getElem?_eq_some_iff.mp q1).1
    have o1 : ∀ q : Nat, q ≠ adr sa z a → (H.setIfInBounds (adr sa z a) (cell.setSlot f.slot (mv sa z v)))[q]? = H[q]? := fun q hq => by simp [Array.getElem?_setIfInBounds, Ne.symm hq]
    have e1 : (H.setIfInBounds (adr sa z a) (cell.setSlot f.slot (mv sa z v)))[adr sa z a]? = some (cell.setSlot f.slot (mv sa z v)) := by simp [Array.getElem?_setIfInBounds, ha']
    refine kk p l e R s m args below meth c z sa D dA Z mc ms C h1 h2 h3 h4 h5 _ _ cells slots ls (hR.set ha hnd (by simp) o1 ?_) (hS.put (by simp) o1 (by show z ≤ _; rw [adr_ge g1]; omega)) hl h6 h7
    show va_at D vwCl (_, .inr (ci, (fs.set k v).map (mv sa z))) _
    refine ⟨_, hc, ?_⟩
    rw [List.map_set]
    rw [hsl] at e1 ⊢
    exact t_OB.to (V := updV (vp_V (fs.map (mv sa z))) k (mv sa z v)) ⟨_, e1, q2, q3, t_set q4 hap hk _⟩ (fun j _ => vp_updV_set (by rw [List.length_map]; exact hlen) _ j)
theorem inl_nd (x : Nat × vp_A) : (Sum.inl x : Ce) ≠ dead := by
  unfold dead
  exact fun e => by cases e
def ov : Option Nat → Value
  | none => .null
  | some r => .ref r
theorem ov_mv (sa : Nat → Nat) (z : Nat) (o : Option Nat) : va_rf (o.map (adr sa z)) = mv sa z (ov o) := by cases o <;> rfl
theorem one_P {D : va_G} {q : Nat × va_E} {H : Heap} (h : va_at D vwCl q H) : va_P D vwCl [q] H := fun k x hx => by
  cases k with
  | zero => cases hx; exact h
  | succ k => cases hx
theorem J_iaload {a n : Nat} {f : Nat → Int32} {i : Int32} (hd : decode mi.2.1 pc = .ok (.iaload, 1)) (ha : w.1 a = .inl (0, n, .inl f)) (hi : vp_in i n) (kk : J d mi (pc + 1) lc (.int (f i.toNatClampNeg) :: st) w kb sb Q) : J d mi pc lc (.int i :: .ref a :: st) w kb sb Q := by
  intro p l e R s m args below meth c z sa D dA Z mc ms C h1 h2 h3 h4 h5 H locs cells slots ls hR hS hl h6 h7
  obtain ⟨g1, g2, g3⟩ := hR.at ha (inl_nd _)
  exact va_iald (tys := tyL dA) C.1.1 C.1.2.1 C.hK (one_P g3) 0 0 (cA := dA 0) (n := n) (f := f) rfl rfl hi hd (kk p l e R s m args below meth c z sa D dA Z mc ms C h1 h2 h3 h4 h5 H locs cells slots ls hR hS hl h6 h7)
theorem J_caload {a n : Nat} {f : Nat → Int32} {i : Int32} (hd : decode mi.2.1 pc = .ok (.caload, 1)) (ha : w.1 a = .inl (1, n, .inl f)) (hi : vp_in i n) (kk : J d mi (pc + 1) lc (.int (f i.toNatClampNeg) :: st) w kb sb Q) : J d mi pc lc (.int i :: .ref a :: st) w kb sb Q := by
  intro p l e R s m args below meth c z sa D dA Z mc ms C h1 h2 h3 h4 h5 H locs cells slots ls hR hS hl h6 h7
  obtain ⟨g1, g2, g3⟩ := hR.at ha (inl_nd _)
  exact va_cald (tys := tyL dA) C.1.1 C.1.2.1 C.hK (one_P g3) 0 1 (cA := dA 1) (n := n) (f := f) rfl rfl hi hd (kk p l e R s m args below meth c z sa D dA Z mc ms C h1 h2 h3 h4 h5 H locs cells slots ls hR hS hl h6 h7)
theorem J_laload {a n : Nat} {f : Nat → Int64} {i : Int32} (hd : decode mi.2.1 pc = .ok (.laload, 1)) (ha : w.1 a = .inl (2, n, .inr (.inl f))) (hi : vp_in i n) (kk : J d mi (pc + 1) lc (.long (f i.toNatClampNeg) :: st) w kb sb Q) : J d mi pc lc (.int i :: .ref a :: st) w kb sb Q := by
  intro p l e R s m args below meth c z sa D dA Z mc ms C h1 h2 h3 h4 h5 H locs cells slots ls hR hS hl h6 h7
  obtain ⟨g1, g2, g3⟩ := hR.at ha (inl_nd _)
  exact va_lald (tys := tyL dA) C.1.1 C.1.2.1 C.hK (one_P g3) 0 2 (cA := dA 2) (n := n) (f := f) rfl rfl hi hd (kk p l e R s m args below meth c z sa D dA Z mc ms C h1 h2 h3 h4 h5 H locs cells slots ls hR hS hl h6 h7)
theorem J_aaload {a n : Nat} {f : Nat → Option Nat} {i : Int32} (hd : decode mi.2.1 pc = .ok (.aaload, 1)) (ha : w.1 a = .inl (4, n, .inr (.inr (.inr (.inr f))))) (hi : vp_in i n) (kk : J d mi (pc + 1) lc (ov (f i.toNatClampNeg) :: st) w kb sb Q) : J d mi pc lc (.int i :: .ref a :: st) w kb sb Q := by
  intro p l e R s m args below meth c z sa D dA Z mc ms C h1 h2 h3 h4 h5 H locs cells slots ls hR hS hl h6 h7
  obtain ⟨g1, g2, g3⟩ := hR.at ha (inl_nd _)
  refine va_aldq (tys := tyL dA) C.1.1 C.1.2.1 C.hK (one_P g3) 0 4 (cA := dA 4) (C := RX4) (n := n) (f := fun j => (f j).map (adr sa z)) rfl rfl hi hd ?_
  have h := kk p l e R s m args below meth c z sa D dA Z mc ms C h1 h2 h3 h4 h5 H locs cells slots ls hR hS hl h6 h7
  rw [List.map_cons, ← ov_mv] at h
  exact h
theorem J_alen {a t n : Nat} {x : (Nat → Int32) ⊕ (Nat → Int64) ⊕ (Nat → UInt32) ⊕ (Nat → UInt64) ⊕ (Nat → Option Nat)} {v : Int32} (hd : decode mi.2.1 pc = .ok (.arraylength, 1)) (ha : w.1 a = .inl (t, n, x)) (ht : t < 5) (hv : Int32.ofNat n = v) (kk : J d mi (pc + 1) lc (.int v :: st) w kb sb Q) : J d mi pc lc (.ref a :: st) w kb sb Q := by
  intro p l e R s m args below meth c z sa D dA Z mc ms C h1 h2 h3 h4 h5 H locs cells slots ls hR hS hl h6 h7
  obtain ⟨g1, g2, g3⟩ := hR.at ha (inl_nd _)
  obtain ⟨ty, hty⟩ : ∃ ty, (tyL dA)[t]? = some (dA t, ty) := by
    match t, ht with
    | 0, _ => exact ⟨_, rfl⟩
    | 1, _ => exact ⟨_, rfl⟩
    | 2, _ => exact ⟨_, rfl⟩
    | 3, _ => exact ⟨_, rfl⟩
    | 4, _ => exact ⟨_, rfl⟩
  refine va_alen (tys := tyL dA) C.1.1 C.1.2.1 C.hK (one_P g3) 0 t (cA := dA t) (x := trA sa z (n, x)) rfl hty ?_ hd (kk p l e R s m args below meth c z sa D dA Z mc ms C h1 h2 h3 h4 h5 H locs cells slots ls hR hS hl h6 h7)
  rw [← hv]
  rcases x with f | f | f | f | f <;> rfl
theorem J_iastore {a n : Nat} {f : Nat → Int32} {i : Int32} {x : Int32} (hd : decode mi.2.1 pc = .ok (.iastore, 1)) (ha : w.1 a = .inl (0, n, .inl f)) (hi : vp_in i n) (kk : J d mi (pc + 1) lc st (upW w a (.inl (0, n, .inl (upd f i.toNatClampNeg x)))) kb sb Q) : J d mi pc lc (.int x :: .int i :: .ref a :: st) w kb sb Q := by
  intro p l e R s m args below meth c z sa D dA Z mc ms C h1 h2 h3 h4 h5 H locs cells slots ls hR hS hl h6 h7
  obtain ⟨g1, g2, g3⟩ := hR.at ha (inl_nd _)
  have g4 : H[adr sa z a]? = some (vp_cell (dA 0) (n, .inl f)) := g3
  refine W.iast C.1.1 C.1.2.1 g4 ((C.hK.2 0 _ rfl).1 n (fun j => .int (f j))) (fun q => by cases q) (by show ¬ (i < 0 ∨ (arrV _ _ _).slots.size ≤ _); rw [arrV_size]; exact hi) rfl rfl hd fun H1 e1 zq oq => ?_
  refine kk p l e R s m args below meth c z sa D dA Z mc ms C h1 h2 h3 h4 h5 H1 _ cells slots ls (hR.set ha (inl_nd _) zq oq ?_) (hS.put zq oq (by show z ≤ _; rw [adr_ge g1]; omega)) hl h6 h7
  show H1[adr sa z a]? = some (vp_cell (dA 0) (n, .inl (upd f i.toNatClampNeg x)))
  rw [e1]
  rw [vp_cell_i, vp_cell_i, arrV_store]
  congr 2
  funext q
  by_cases hq : q = i.toNatClampNeg
  · subst hq
    simp [updV, upd, vp_nar]
    try rfl
  · simp [updV, upd, hq]
theorem J_castore {a n : Nat} {f : Nat → Int32} {i : Int32} {x : Int32} (hd : decode mi.2.1 pc = .ok (.castore, 1)) (ha : w.1 a = .inl (1, n, .inl f)) (hi : vp_in i n) (kk : J d mi (pc + 1) lc st (upW w a (.inl (1, n, .inl (upd f i.toNatClampNeg (vp_nar .char x))))) kb sb Q) : J d mi pc lc (.int x :: .int i :: .ref a :: st) w kb sb Q := by
  intro p l e R s m args below meth c z sa D dA Z mc ms C h1 h2 h3 h4 h5 H locs cells slots ls hR hS hl h6 h7
  obtain ⟨g1, g2, g3⟩ := hR.at ha (inl_nd _)
  have g4 : H[adr sa z a]? = some (vp_cell (dA 1) (n, .inl f)) := g3
  refine W.cast C.1.1 C.1.2.1 g4 ((C.hK.2 1 _ rfl).1 n (fun j => .int (f j))) (fun q => by cases q) (by show ¬ (i < 0 ∨ (arrV _ _ _).slots.size ≤ _); rw [arrV_size]; exact hi) rfl rfl hd fun H1 e1 zq oq => ?_
  refine kk p l e R s m args below meth c z sa D dA Z mc ms C h1 h2 h3 h4 h5 H1 _ cells slots ls (hR.set ha (inl_nd _) zq oq ?_) (hS.put zq oq (by show z ≤ _; rw [adr_ge g1]; omega)) hl h6 h7
  show H1[adr sa z a]? = some (vp_cell (dA 1) (n, .inl (upd f i.toNatClampNeg (vp_nar .char x))))
  rw [e1]
  rw [vp_cell_i, vp_cell_i, arrV_store]
  congr 2
  funext q
  by_cases hq : q = i.toNatClampNeg
  · subst hq
    simp [updV, upd, vp_nar]
    try rfl
  · simp [updV, upd, hq]
theorem J_lastore {a n : Nat} {f : Nat → Int64} {i : Int32} {x : Int64} (hd : decode mi.2.1 pc = .ok (.lastore, 1)) (ha : w.1 a = .inl (2, n, .inr (.inl f))) (hi : vp_in i n) (kk : J d mi (pc + 1) lc st (upW w a (.inl (2, n, .inr (.inl (vp_updL f i.toNatClampNeg x))))) kb sb Q) : J d mi pc lc (.long x :: .int i :: .ref a :: st) w kb sb Q := by
  intro p l e R s m args below meth c z sa D dA Z mc ms C h1 h2 h3 h4 h5 H locs cells slots ls hR hS hl h6 h7
  obtain ⟨g1, g2, g3⟩ := hR.at ha (inl_nd _)
  have g4 : H[adr sa z a]? = some (vp_cell (dA 2) (n, .inr (.inl f))) := g3
  refine W.last C.1.1 C.1.2.1 g4 ((C.hK.2 2 _ rfl).1 n (fun j => .long (f j))) (fun q => by cases q) (by show ¬ (i < 0 ∨ (arrV _ _ _).slots.size ≤ _); rw [arrV_size]; exact hi) rfl rfl hd fun H1 e1 zq oq => ?_
  refine kk p l e R s m args below meth c z sa D dA Z mc ms C h1 h2 h3 h4 h5 H1 _ cells slots ls (hR.set ha (inl_nd _) zq oq ?_) (hS.put zq oq (by show z ≤ _; rw [adr_ge g1]; omega)) hl h6 h7
  show H1[adr sa z a]? = some (vp_cell (dA 2) (n, .inr (.inl (vp_updL f i.toNatClampNeg x))))
  rw [e1]
  rw [vp_cell_l, vp_cell_l, arrV_store]
  congr 2
  funext q
  by_cases hq : q = i.toNatClampNeg
  · subst hq
    simp [updV, vp_updL, vp_nar]
    try rfl
  · simp [updV, vp_updL, hq]
theorem J_aastore {a b n ci : Nat} {f : Nat → Option Nat} {fs : List Value} {i : Int32} (hd : decode mi.2.1 pc = .ok (.aastore, 1)) (ha : w.1 a = .inl (4, n, .inr (.inr (.inr (.inr f))))) (hb : w.1 b = .inr (ci, fs)) (hci : ci = 4) (hi : vp_in i n) (kk : J d mi (pc + 1) lc st (upW w a (.inl (4, n, .inr (.inr (.inr (.inr (va_up f i.toNatClampNeg (some b)))))))) kb sb Q) : J d mi pc lc (.ref b :: .int i :: .ref a :: st) w kb sb Q := by
  intro p l e R s m args below meth c z sa D dA Z mc ms C h1 h2 h3 h4 h5 H locs cells slots ls hR hS hl h6 h7
  subst hci
  obtain ⟨g1, g2, g3⟩ := hR.at ha (inl_nd _)
  obtain ⟨f1, f2, f3⟩ := hR.at hb (by unfold dead; exact fun e => by cases e)
  have g4 : H[adr sa z a]? = some (vp_cell (dA 4) (n, .inr (.inr (.inr (.inr fun j => (f j).map (adr sa z)))))) := g3
  have hlt : i.toNatClampNeg < n := Nat.not_le.mp fun q => hi (Or.inr q)
  have h0 : ¬ i < 0 := fun q => hi (Or.inl q)
  obtain ⟨r', hr', cellV, k1, k2, k3, -⟩ := f3
  have hcl : vwCl[4]? = some (RX4, TX4, 15) := rfl
  have hcls := (C.hK.1 4 _ hcl).2
  obtain ⟨kA, comp, m1, m2, m3, -⟩ := (C.hK.2 4 _ rfl).2
  have hcomp : comp = D.1 4 := Option.some.inj (m3.symm.trans hcls.1)
  subst hcomp
  obtain ⟨kC, hkC, -⟩ := hcls.2
  refine W.aast C.1.1 C.1.2.1 g4 (fun q h => by cases h) (fun h => by cases h) m1 m2 rfl hkC ⟨h0, by show _ < (arrV _ _ _).slots.size; rw [arrV_size]; exact hlt⟩ k1 (fun q h => by rw [k3] at h; cases h) (by rw [k2]; exact hkC) (by rw [k2]; exact va_assign hcls) rfl rfl hd fun H1 e1 zq oq => ?_
  refine kk p l e R s m args below meth c z sa D dA Z mc ms C h1 h2 h3 h4 h5 H1 _ cells slots ls (hR.set ha (inl_nd _) zq oq ?_) (hS.put zq oq (by show z ≤ _; rw [adr_ge g1]; omega)) hl h6 h7
  show H1[adr sa z a]? = some (vp_cell (dA 4) (n, .inr (.inr (.inr (.inr fun j => (va_up f i.toNatClampNeg (some b) j).map (adr sa z))))))
  rw [e1]
  rw [vp_cell_q, vp_cell_q, arrV_store]
  congr 2
  funext q
  by_cases hq : q = i.toNatClampNeg
  · subst hq
    simp [updV, va_up, va_rf]
  · simp [updV, va_up, hq]
/-- the objects ci can be made: their class by the entry idx, their fields' defaults -/
def NL (own : String) (idx ci N : Nat) (fs : List Value) : Prop :=
  ∃ (C : String) (T : u_T) (tys : Nat → FieldType), vwCl[ci]? = some (C, T, N) ∧ (∀ w ∈ u_ws C T N, w ∈ AL) ∧ (∀ j, j < N → parseFieldDescriptor (T j).2.2.1 = some (tys j)) ∧ Cond.classLink own idx C ∈ AL ∧ Cond.instantiable C N ∈ AL ∧ Cond.initialized C ∈ AL ∧ fs = (List.range N).map (fun j => defaultValue (tys j))
theorem J_new {idx ci N : Nat} {fs : List Value} (hd : decode mi.2.1 pc = .ok (.new idx, 3)) (hL : NL mi.1.cls idx ci N fs) (hf : w.2.2 = true) (kk : J d mi (pc + 3) lc (.ref (100 + w.2.1) :: st) (nwW w (.inr (ci, fs))) kb sb Q) : J d mi pc lc st w (kb + 1) (sb + N) Q := by
  intro p l e R s m args below meth c z sa D dA Z mc ms C h1 h2 h3 h4 h5 H locs cells slots ls hR hS hl h6 h7
  obtain ⟨CC, T, tys, hc, hws, htys, w1, w2, w3, hfs⟩ := hL
  have hKn := C.hK.1 ci _ hc
  refine W.newcK C.1.1 C.1.2.1 C.own (C.hts _ w1) (C.hts _ w2) (C.hts _ w3) rfl hd (by omega) (by omega) hKn.2.1 rfl fun H1 kC hkC e1 z1 o1 => ?_
  have hadr : adr sa z (100 + w.2.1) = H.size := by rw [adr_ge (by omega), hR.1 hf]; omega
  have hs : va_S (Az z) s.heap H1 locs := ⟨Nat.le_trans hS.1 (by omega), fun x a1 a2 => (o1 x (Nat.lt_of_lt_of_le a1 hS.1)).trans (hS.2.1 x a1 a2), hS.2.2⟩
  have hmap : fs.map (mv sa z) = fs := by
    rw [hfs, List.map_map]
    exact List.map_congr_left fun j _ => mv_defv _
  have k := kk p l e R s m args below meth c z sa D dA Z mc ms C h1 h2 h3 h4 h5 H1 locs (cells + 1) (slots + N) ls (hR.new hf z1 o1 (x := .inr (ci, fs)) ⟨_, hc, (u_born tys C.hts hws hKn hkC e1 htys).to (fun j hj => ?_)⟩) hs hl (by omega) (by omega)
  · show W p l e R s m args below meth c H1 locs (cells + 1) (slots + N) Z (F0 m (pc + 3) ls (.ref H.size :: st.map (mv sa z)))
    rw [← hadr]
    exact k
  · show _ = vp_V (fs.map (mv sa z)) j
    rw [hmap, hfs]
    simp [vp_V, List.getD_eq_getElem?_getD, hj]
theorem J_newa_int {x : Int32} {N : Nat} (hd : decode mi.2.1 pc = .ok (.newarray .int, 2)) (hw : Cond.arrayClass (newarray.typeOf .int) ∈ AL) (hx : ¬ x < 0) (hN : x.toNatClampNeg = N) (hB : N * 8 ≤ 536870912) (hf : w.2.2 = true) (kk : J d mi (pc + 2) lc (.ref (100 + w.2.1) :: st) (nwW w (.inl (0, N, .inl fun _ => 0))) kb sb Q) : J d mi pc lc (.int x :: st) w (kb + 1) (sb + N) Q := by
  intro p l e R s m args below meth c z sa D dA Z mc ms C h1 h2 h3 h4 h5 H locs cells slots ls hR hS hl h6 h7
  refine va_newaK (atype := .int) C.1.1 C.1.2.1 (C.hts _ hw) rfl hd rfl hx hN (by show N * 4 ≤ _; omega) (by omega) (by omega) rfl fun H1 cA e1 z1 o1 hA hcA => ?_
  have hcA' : cA = dA 0 := Option.some.inj (hcA.symm.trans (C.hK.2 0 _ rfl).2)
  subst hcA'
  have hadr : adr sa z (100 + w.2.1) = H.size := by rw [adr_ge (by omega), hR.1 hf]; omega
  have hs : va_S (Az z) s.heap H1 locs := ⟨Nat.le_trans hS.1 (by omega), fun x a1 a2 => (o1 x (Nat.lt_of_lt_of_le a1 hS.1)).trans (hS.2.1 x a1 a2), hS.2.2⟩
  have k := kk p l e R s m args below meth c z sa D dA Z mc ms C h1 h2 h3 h4 h5 H1 locs (cells + 1) (slots + N) ls (hR.new hf z1 o1 (x := .inl (0, N, .inl fun _ => 0)) e1) hs hl (by omega) (by omega)
  show W p l e R s m args below meth c H1 locs (cells + 1) (slots + N) Z (F0 m (pc + 2) ls (.ref H.size :: st.map (mv sa z)))
  rw [← hadr]
  exact k
theorem J_newa_char {x : Int32} {N : Nat} (hd : decode mi.2.1 pc = .ok (.newarray .char, 2)) (hw : Cond.arrayClass (newarray.typeOf .char) ∈ AL) (hx : ¬ x < 0) (hN : x.toNatClampNeg = N) (hB : N * 8 ≤ 536870912) (hf : w.2.2 = true) (kk : J d mi (pc + 2) lc (.ref (100 + w.2.1) :: st) (nwW w (.inl (1, N, .inl fun _ => 0))) kb sb Q) : J d mi pc lc (.int x :: st) w (kb + 1) (sb + N) Q := by
  intro p l e R s m args below meth c z sa D dA Z mc ms C h1 h2 h3 h4 h5 H locs cells slots ls hR hS hl h6 h7
  refine va_newaK (atype := .char) C.1.1 C.1.2.1 (C.hts _ hw) rfl hd rfl hx hN (by show N * 2 ≤ _; omega) (by omega) (by omega) rfl fun H1 cA e1 z1 o1 hA hcA => ?_
  have hcA' : cA = dA 1 := Option.some.inj (hcA.symm.trans (C.hK.2 1 _ rfl).2)
  subst hcA'
  have hadr : adr sa z (100 + w.2.1) = H.size := by rw [adr_ge (by omega), hR.1 hf]; omega
  have hs : va_S (Az z) s.heap H1 locs := ⟨Nat.le_trans hS.1 (by omega), fun x a1 a2 => (o1 x (Nat.lt_of_lt_of_le a1 hS.1)).trans (hS.2.1 x a1 a2), hS.2.2⟩
  have k := kk p l e R s m args below meth c z sa D dA Z mc ms C h1 h2 h3 h4 h5 H1 locs (cells + 1) (slots + N) ls (hR.new hf z1 o1 (x := .inl (1, N, .inl fun _ => 0)) e1) hs hl (by omega) (by omega)
  show W p l e R s m args below meth c H1 locs (cells + 1) (slots + N) Z (F0 m (pc + 2) ls (.ref H.size :: st.map (mv sa z)))
  rw [← hadr]
  exact k
theorem J_newa_long {x : Int32} {N : Nat} (hd : decode mi.2.1 pc = .ok (.newarray .long, 2)) (hw : Cond.arrayClass (newarray.typeOf .long) ∈ AL) (hx : ¬ x < 0) (hN : x.toNatClampNeg = N) (hB : N * 8 ≤ 536870912) (hf : w.2.2 = true) (kk : J d mi (pc + 2) lc (.ref (100 + w.2.1) :: st) (nwW w (.inl (2, N, .inr (.inl fun _ => 0)))) kb sb Q) : J d mi pc lc (.int x :: st) w (kb + 1) (sb + N) Q := by
  intro p l e R s m args below meth c z sa D dA Z mc ms C h1 h2 h3 h4 h5 H locs cells slots ls hR hS hl h6 h7
  refine va_newaK (atype := .long) C.1.1 C.1.2.1 (C.hts _ hw) rfl hd rfl hx hN (by show N * 8 ≤ _; omega) (by omega) (by omega) rfl fun H1 cA e1 z1 o1 hA hcA => ?_
  have hcA' : cA = dA 2 := Option.some.inj (hcA.symm.trans (C.hK.2 2 _ rfl).2)
  subst hcA'
  have hadr : adr sa z (100 + w.2.1) = H.size := by rw [adr_ge (by omega), hR.1 hf]; omega
  have hs : va_S (Az z) s.heap H1 locs := ⟨Nat.le_trans hS.1 (by omega), fun x a1 a2 => (o1 x (Nat.lt_of_lt_of_le a1 hS.1)).trans (hS.2.1 x a1 a2), hS.2.2⟩
  have k := kk p l e R s m args below meth c z sa D dA Z mc ms C h1 h2 h3 h4 h5 H1 locs (cells + 1) (slots + N) ls (hR.new hf z1 o1 (x := .inl (2, N, .inr (.inl fun _ => 0))) e1) hs hl (by omega) (by omega)
  show W p l e R s m args below meth c H1 locs (cells + 1) (slots + N) Z (F0 m (pc + 2) ls (.ref H.size :: st.map (mv sa z)))
  rw [← hadr]
  exact k
theorem J_anew {idx : Nat} {x : Int32} {N : Nat} (hd : decode mi.2.1 pc = .ok (.anewarray idx, 3)) (hw : Cond.classLink mi.1.cls idx RX4 ∈ AL) (hx : ¬ x < 0) (hN : x.toNatClampNeg = N) (hB : N * 4 ≤ 536870912) (hf : w.2.2 = true) (kk : J d mi (pc + 3) lc (.ref (100 + w.2.1) :: st) (nwW w (.inl (4, N, .inr (.inr (.inr (.inr fun _ => none)))))) kb sb Q) : J d mi pc lc (.int x :: st) w (kb + 1) (sb + N) Q := by
  intro p l e R s m args below meth c z sa D dA Z mc ms C h1 h2 h3 h4 h5 H locs cells slots ls hR hS hl h6 h7
  subst hN
  have hao : va_AO RX4 s := C.hF.2.2.2.2.2.2.2.2.2.2.2.2.1
  refine W.anew C.1.1 C.1.2.1 C.own (C.hts _ hw) (va_AO.use hao) rfl hd rfl hx hB (by omega) (by omega) fun cA kA comp f1 f2 f3 f4 => ?_
  have hcA' : cA = dA 4 := by
    obtain ⟨kA', comp', m1, m2, m3, m4⟩ := (C.hK.2 4 _ rfl).2
    exact Option.some.inj (f1.symm.trans m4)
  subst hcA'
  have hadr : adr sa z (100 + w.2.1) = H.size := by rw [adr_ge (by omega), hR.1 hf]; omega
  have z1 : (H.push { cls := dA 4, slots := Array.replicate x.toNatClampNeg Value.null, vm := .none }).size = H.size + 1 := by simp
  have o1 : ∀ q : Nat, q < H.size → (H.push { cls := dA 4, slots := Array.replicate x.toNatClampNeg Value.null, vm := .none })[q]? = H[q]? := fun q hq => by
    rw [Array.getElem?_push, if_neg (Nat.ne_of_lt hq)]
  have e1 : (H.push { cls := dA 4, slots := Array.replicate x.toNatClampNeg Value.null, vm := .none })[H.size]? = some (vp_cell (dA 4) (x.toNatClampNeg, .inr (.inr (.inr (.inr fun _ => none))))) := by
    rw [vp_cell_q, show (fun j : Nat => va_rf ((fun _ => none : Nat → Option Nat) j)) = fun _ => Value.null from rfl, ← arrV_new]
    simp
  have hs : va_S (Az z) s.heap (H.push { cls := dA 4, slots := Array.replicate x.toNatClampNeg Value.null, vm := .none }) locs := ⟨Nat.le_trans hS.1 (by omega), fun x a1 a2 => (o1 x (Nat.lt_of_lt_of_le a1 hS.1)).trans (hS.2.1 x a1 a2), hS.2.2⟩
  have k := kk p l e R s m args below meth c z sa D dA Z mc ms C h1 h2 h3 h4 h5 _ locs (cells + 1) (slots + x.toNatClampNeg) ls (hR.new hf z1 o1 (x := .inl (4, x.toNatClampNeg, .inr (.inr (.inr (.inr fun _ => none))))) e1) hs hl (by omega) (by omega)
  show W p l e R s m args below meth c _ locs (cells + 1) (slots + x.toNatClampNeg) Z (F0 m (pc + 3) ls (.ref H.size :: st.map (mv sa z)))
  rw [← hadr]
  exact k
end JHEAP

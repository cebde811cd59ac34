/-! CONTRACTS: a method's (MC), its proof out of the judgement, its use at a call -/
section JCALLS
def headC (mi : MI) : Cond := match mi.2.2.2.2 with
  | [] => .code mi.1 mi.2.1 mi.2.2.1 mi.2.2.2.1
  | hh => .codeWith mi.1 mi.2.1 mi.2.2.1 mi.2.2.2.1 hh
def PcM (av : List Value) (w : Wd) (z : Nat) (sa : Nat → Nat) (D : va_G) (dA : Nat → ClassId) : Array Value → State → Prop := fun a U => a = (av.map (mv sa z)).toArray ∧ Rel D dA sa z w U.heap ∧ va_K D vwCl (tyL dA) U ∧ SF sa (Az z) U U.heap ∧ z ≤ U.heap.size
def QcM (Q : Po) (z : Nat) (sa : Nat → Nat) (D : va_G) (dA : Nat → ClassId) : Array Value → State → Outcome → State → Prop := fun _ st o t => ∃ (v : Option Value) (w : Wd), o = .returned (v.map (mv sa z)) ∧ Q (.inl v) w ∧ Rel D dA sa z w t.heap ∧ va_F (Az z) st t
def XcM (Q : Po) (z : Nat) (sa : Nat → Nat) (D : va_G) (dA : Nat → ClassId) : String → State → State → Prop := fun E st t => ∃ w : Wd, Q (.inr E) w ∧ Rel D dA sa z w t.heap ∧ va_F (Az z) st t
def rmM (d kb sb : Nat) : Room := { frames := d, cells := kb, slots := sb, locals := 64 * d }
/-- the method mi, called with av in the world w, with d frames and room for kb cells of sb slots, comes to an end that Q allows -/
def MC (d : Nat) (mi : MI) (kb sb : Nat) (av : List Value) (w : Wd) (Q : Po) : Prop :=
  ∀ (l : Launch), l.stackTraces = false → ∀ (z : Nat) (sa : Nat → Nat) (D : va_G) (dA : Nat → ClassId), vx_Met l mi.1 (headC mi :: AL) (rmM d kb sb) (PcM av w z sa D dA) (QcM Q z sa D dA) (XcM Q z sa D dA) kb sb (Az z)
theorem PcM_blind (av : List Value) (w : Wd) (z : Nat) (sa : Nat → Nat) (D : va_G) (dA : Nat → ClassId) : FrameBlind (PcM av w z sa D dA) := fun a U g mk q => by
  obtain ⟨q1, q2, q3, q4, q5⟩ := q
  exact ⟨q1, q2, va_K.moved (u := U) (U := U.calling g mk a) (Vm.Alike.refl U.vm) q3, SF.vm (u := U) (U := U.calling g mk a) rfl q4, q5⟩
theorem lv_args_at (vs : List Value) (hc : ∀ v ∈ vs, v.category = 1) : ∀ (i k : Nat) (v : Value), vs[k]? = some v → (i + k, v) ∈ lv_args i vs := by
  induction vs with
  | nil => intro i k v h; simp at h
  | cons a l ih =>
    intro i k v h
    have ha : ¬ a.category = 2 := by rw [hc a List.mem_cons_self]; decide
    unfold lv_args
    rw [if_neg ha]
    cases k with
    | zero =>
      cases h
      exact List.mem_cons_self
    | succ k =>
      have := ih (fun v hv => hc v (List.mem_cons_of_mem _ hv)) (i + 1) k v (by simpa using h)
      rw [show i + (k + 1) = i + 1 + k by omega]
      exact List.mem_cons_of_mem _ this
theorem lg_sl_len (vs : List Value) (hc : ∀ v ∈ vs, v.category = 1) : (lg_sl vs).length = vs.length := by
  induction vs with
  | nil => rfl
  | cons a l ih =>
    have ha : ¬ a.category = 2 := by rw [hc a List.mem_cons_self]; decide
    have e : lg_sl (a :: l) = Slot.val a :: lg_sl l := by
      unfold lg_sl
      rw [List.flatMap_cons, if_neg ha]
      rfl
    rw [e, List.length_cons, List.length_cons, ih (fun v hv => hc v (List.mem_cons_of_mem _ hv))]
def lc0 (av : List Value) (n : Nat) : List (Option Value) := av.map some ++ List.replicate (n - av.length) none
theorem lc0_rel {sa : Nat → Nat} {z nL : Nat} {av : List Value} (hc : ∀ v ∈ av, v.category = 1) (hl : av.length ≤ nL) : lrel sa z nL (lc0 av nL) ((lg_sl (av.map (mv sa z)) ++ List.replicate (nL - (lg_sl (av.map (mv sa z))).length) Slot.unset).toArray) := by
  have hc' : ∀ v ∈ av.map (mv sa z), v.category = 1 := fun v hv => by
    obtain ⟨u, hu, rfl⟩ := List.mem_map.mp hv
    rw [mv_cat]
    exact hc u hu
  have h := lv_entry (av.map (mv sa z)) (n := nL) (by rw [lg_sl_len _ hc', List.length_map]; exact hl)
  refine ⟨h.1, h.2.1, fun i v hv => ?_⟩
  unfold lc0 at hv
  by_cases hi : i < av.length
  · rw [List.getElem?_append_left (by rw [List.length_map]; exact hi), List.getElem?_map] at hv
    cases ha : av[i]? with
    | none => rw [ha] at hv; cases hv
    | some u =>
      rw [ha] at hv
      have e : u = v := Option.some.inj (Option.some.inj hv)
      subst e
      have := lv_args_at (av.map (mv sa z)) hc' 0 i (mv sa z u) (by rw [List.getElem?_map, ha]; rfl)
      rw [Nat.zero_add] at this
      exact h.2.2 _ this
  · rw [List.getElem?_append_right (by rw [List.length_map]; omega), List.getElem?_replicate] at hv
    split at hv <;> cases hv
theorem covers_nil {pc : Nat} : ∀ x ∈ tableOf [], covers x pc = false := fun x h => by cases h
/-- the ends of a body -/
theorem J_ends {d : Nat} {mi : MI} {kb sb : Nat} {Q : Po} {p : Program} {l : Launch} {e : Env} {s : State} {m : MethodId} {args : Array Value} {below : List Frame} {meth : Method} {c : Code} {z : Nat} {sa : Nat → Nat} {D : va_G} {dA : Nat → ClassId} {R : Room} (C : Cx d mi p l R s m args meth c z sa D dA) (hd : 6 ≤ d ∨ ∀ E w, ¬ Q (.inr E) w) (hc1 : kb ≤ R.cells) (hc2 : sb ≤ R.slots) :
    HR mi p l e R s m args below meth c z sa D dA Q (vx_MQ below (QcM Q z sa D dA) (XcM Q z sa D dA) args s kb sb (Az z)) kb sb ∧ HX mi p l e R s m args below meth c z sa D dA Q (vx_MQ below (QcM Q z sa D dA) (XcM Q z sa D dA) args s kb sb (Az z)) kb sb ∧ HT mi p l e R s m args below meth c z sa D dA Q (vx_MQ below (QcM Q z sa D dA) (XcM Q z sa D dA) args s kb sb (Az z)) kb sb := by
  have hlocks : meth.locks = false := C.2.2.1
  refine ⟨fun v w H locs pc ls i hq hR hS hret hdec => ?_, fun E w H locs pc ls rest q ce hq hR hS hcov hce hcv hcl => ?_, fun E w H locs cells slots pc ls hq hR hS hls hT hk hs => ?_⟩
  · refine vx_ret ?_
    have qc : ∀ t : State, t.heap = H → s.WarmedH t.vm → QcM Q z sa D dA args s (.returned (v.map (mv sa z))) t := fun t ht _ => ⟨v, w, rfl, hq, by rw [ht]; exact hR, hS.F ht⟩
    rcases hret with ⟨rfl, rfl, hr⟩ | ⟨rfl, x, ty, rfl, hr, hn⟩ | ⟨rfl, x, rfl, hr⟩ | ⟨rfl, x, rfl, hr⟩ | ⟨rfl, x, rfl, hr⟩ | ⟨rfl, a, ty, rfl, hr, hty⟩
    · exact W.vret C.1.1 rfl (C.2.1.trans hr) qc hS.2.2 hdec hlocks
    · exact W.zret C.1.1 rfl (C.2.1.trans hr) hn qc hS.2.2 hdec hlocks
    · exact W.dret C.1.1 rfl (C.2.1.trans hr) qc hS.2.2 hdec hlocks
    · exact W.fret C.1.1 rfl (C.2.1.trans hr) qc hS.2.2 hdec hlocks
    · exact W.lret C.1.1 rfl (C.2.1.trans hr) qc hS.2.2 hdec hlocks
    · exact W.aret C.1.1 rfl (C.2.1.trans hr) hty (Or.inr ⟨_, rfl⟩) qc hS.2.2 hdec hlocks
  · exact vx_out (by rw [C.2.2.2.2.1]; exact hcov) hlocks hce hcv hcl (fun t ht _ => ⟨w, hq, by rw [ht]; exact hR, hS.F ht⟩) hS.2.2 (Nat.le_refl _) (Nat.le_refl _)
  · rcases hd with hd | hd
    · have hroom := C.room
      refine jthrow (mi := mi) (A := Az z) C.1.1 C.1.2.1 C.2.2.2.2.2.1 C.own C.hts C.hF hS (by rw [hls, C.1.2.2.1]) hT ?_ (by omega) (by omega) (by omega) (by omega) hlocks (fun t ha hsz hkp => ⟨stW w, hq, hR.grown hkp, ⟨Nat.le_trans hS.1 hsz, fun q g1 g2 => (hkp q (Nat.lt_of_lt_of_le g1 hS.1)).trans (hS.2.1 q g1 g2)⟩⟩) hS.2.2 hk hs
      rw [C.2.2.2.2.1]
      obtain ⟨ik, is, ic, ld, k, bytes, text, -, -, -, -, -, -, -, -, -, -, -, hh⟩ := hT
      rw [hh]
      rfl
    · exact absurd hq (hd _ _)
/-- a contract out of the judgement at the body's start -/
theorem MC_of {d : Nat} {mi : MI} {kb sb : Nat} {av : List Value} {w : Wd} {Q : Po} (hy : plainName mi.1.cls = true) (hh : mi.2.2.2.2 = []) (hcat : ∀ v ∈ av, v.category = 1) (hlen : av.length ≤ mi.2.2.1) (hd : 6 ≤ d ∨ ∀ E w, ¬ Q (.inr E) w) (h : J d mi 0 (lc0 av mi.2.2.1) [] w kb sb Q) : MC d mi kb sb av w Q := by
  intro l hl z sa D dA
  refine vx_ofW (cc := mi.2.1) (maxL := mi.2.2.1) (ret := mi.2.2.2.1) hy (by unfold headC; rw [hh]) ?_
  intro p e s m args below meth c s₁ B hml htab hv
  obtain ⟨rfl, hR, hK, hF, hz⟩ := hv
  have hts := atoms_spec (ws := headC mi :: AL) B.pre
  have C : Cx d mi p l (rmM d kb sb) s m (av.map (mv sa z)).toArray meth c z sa D dA := by
    refine ⟨⟨B.exec, B.bytes, hml, findClass_of_methodNamed B.named, fun w h => hts w (List.mem_cons_of_mem _ h)⟩, B.returns, B.notSynchronized, (name_of_methodNamed B.named B.method).1, ?_, hl, ⟨Nat.le_refl _, Nat.le_refl _⟩, hK, hF, hz⟩
    rw [hh]
    exact List.eq_nil_iff_forall_not_mem.mpr htab
  obtain ⟨k1, k2, k3⟩ := J_ends (e := e) (below := below) (Q := Q) (kb := kb) (sb := sb) C hd (Nat.le_refl _) (Nat.le_refl _)
  rw [lg_entry_eq]
  exact h p l e (rmM d kb sb) s m _ below meth c z sa D dA _ kb sb C k1 k2 k3 (Nat.le_refl _) (Nat.le_refl _) s.heap [] 0 0 _ hR va_S.rf (lc0_rel hcat hlen) (by omega) (by omega)
/-- .. of a method with handlers -/
theorem MC_ofH {d : Nat} {mi : MI} {kb sb : Nat} {av : List Value} {w : Wd} {Q : Po} (hy : plainName mi.1.cls = true) (hh : headC mi = .codeWith mi.1 mi.2.1 mi.2.2.1 mi.2.2.2.1 mi.2.2.2.2) (hcat : ∀ v ∈ av, v.category = 1) (hlen : av.length ≤ mi.2.2.1) (hd : ∀ E w, ¬ Q (.inr E) w) (h : J d mi 0 (lc0 av mi.2.2.1) [] w kb sb Q) : MC d mi kb sb av w Q := by
  intro l hl z sa D dA
  refine vx_ofWH (cc := mi.2.1) (maxL := mi.2.2.1) (ret := mi.2.2.2.1) (hh := mi.2.2.2.2) hy (by rw [hh]) ?_
  intro p e s m args below meth c s₁ B hml hv
  obtain ⟨rfl, hR, hK, hF, hz⟩ := hv
  have hts := atoms_spec (ws := headC mi :: AL) B.pre
  have C : Cx d mi p l (rmM d kb sb) s m (av.map (mv sa z)).toArray meth c z sa D dA := by
    refine ⟨⟨B.exec, B.bytes, hml, findClass_of_methodNamed B.named, fun w h => hts w (List.mem_cons_of_mem _ h)⟩, B.returns, B.notSynchronized, (name_of_methodNamed B.named B.method).1, ?_, hl, ⟨Nat.le_refl _, Nat.le_refl _⟩, hK, hF, hz⟩
    exact vx_table (x := mi.1) (y := mi.1) B (by rw [← hh]; exact hts _ List.mem_cons_self)
  obtain ⟨k1, k2, k3⟩ := J_ends (e := e) (below := below) (Q := Q) (kb := kb) (sb := sb) C (Or.inr hd) (Nat.le_refl _) (Nat.le_refl _)
  rw [lg_entry_eq]
  exact h p l e (rmM d kb sb) s m _ below meth c z sa D dA _ kb sb C k1 k2 k3 (Nat.le_refl _) (Nat.le_refl _) s.heap [] 0 0 _ hR va_S.rf (lc0_rel hcat hlen) (by omega) (by omega)
theorem Met_of_vx {l : Launch} {y : MethodName} {ws : List Cond} {rm : Room} {Pc : Array Value → State → Prop} {Qc : Array Value → State → Outcome → State → Prop} {XC : String → State → State → Prop} {mc ms : Nat} {free : Addr → Prop} (h : vx_Met l y ws rm Pc Qc XC mc ms free) (hx : ∀ E st t, ¬ XC E st t) : Met l y ws rm Pc Qc mc ms free := by
  intro p e h1 h2 h3 s m args below h4 h5 h6 h7
  obtain ⟨n, o, a, b, c, q⟩ := h p e h1 h2 h3 s m args below h4 h5 h6 h7
  refine ⟨n, o, a, b, c, ?_⟩
  rcases q with q | ⟨q, _, E, ce, L, hX, _⟩
  · exact q
  · exact absurd hX (hx _ _ _)

section
variable {d : Nat} {mi : MI} {pc : Nat} {lc : List (Option Value)} {st : List Value} {w : Wd} {kb sb : Nat} {Q : Po}
/-- the method y as it is called: its words -/
def YL (y : MI) (n : Nat) : Prop := headC y = .code y.1 y.2.1 y.2.2.1 y.2.2.2.1 ∧ headC y ∈ AL ∧ Cond.initialized y.1.cls ∈ AL ∧ (y.1.cls ≠ "java/lang/invoke/MethodHandle" ∧ y.1.cls ≠ "java/lang/invoke/VarHandle" ∧ (parseMethodDescriptor y.1.desc).map (fun d => d.parameters.length) = some n) ∧ y.2.2.1 ≤ 40
/-- who is called: a cell of the world, or a constant -/
def Rc (w : Wd) (a : Nat) (CC : String) : Prop := (∃ (ci : Nat) (fs : List Value) (T : u_T) (N : Nat), vwCl[ci]? = some (CC, T, N) ∧ w.1 a = .inr (ci, fs)) ∨ (CC, a) ∈ SFO
theorem SFO_lt {q : String × Nat} (h : q ∈ SFO) : q.2 < 100 := by
  unfold SFO at h
  rcases List.mem_append.mp h with h | h
  · obtain ⟨j, hj, rfl⟩ := List.mem_map.mp h
    have := List.mem_range.mp hj
    show 10 + j < 100
    omega
  · obtain ⟨j, hj, rfl⟩ := List.mem_map.mp h
    have h9 : j < nTx := List.mem_range.mp hj
    have : nTx = 16 := rfl
    show 20 + j < 100
    omega
theorem adr_lt {sa : Nat → Nat} {z a : Nat} (h : a < 100) : adr sa z a = sa a := by
  unfold adr
  rw [if_pos h]
theorem Rc.cell {a : Nat} {CC : String} (h : Rc w a CC) {z : Nat} {sa : Nat → Nat} {D : va_G} {dA : Nat → ClassId} {s : State} {H : Heap} {locs : List Loc} (hR : Rel D dA sa z w H) (hK : va_K D vwCl (tyL dA) s) (hF : SF sa (Az z) s s.heap) (hS : va_S (Az z) s.heap H locs) : ∃ cellB : Cell, H[adr sa z a]? = some cellB ∧ cellB.vm.isStatics = false ∧ s.vm.findClass CC = some cellB.cls := by
  rcases h with ⟨ci, fs, T, N, hc, ha⟩ | h
  · have hnd : (Sum.inr (ci, fs) : Ce) ≠ dead := by
      intro e
      unfold dead at e
      injection e with e
      injection e with e1 e2
      subst e1
      rw [show vwCl[9999]? = none from rfl] at hc
      cases hc
    obtain ⟨g1, g2, g3⟩ := hR.at ha hnd
    obtain ⟨q', k1, cell, k2, k3, k4, -⟩ := g3
    exact ⟨cell, k2, by rw [k4]; rfl, by rw [k3]; exact (hK.1 ci _ hc).2.1⟩
  · have hO := (hF.2.2.1 _ h).kept hS.2.1
    obtain ⟨cell, k1, k2, k3, -⟩ := hO
    exact ⟨cell, by rw [adr_lt (SFO_lt h)]; exact k1, k2, k3⟩
/-- what is the callee's at its start -/
theorem Pre_of {av : List Value} {z : Nat} {sa : Nat → Nat} {D : va_G} {dA : Nat → ClassId} {s : State} {H : Heap} {locs : List Loc} (hR : Rel D dA sa z w H) (hK : va_K D vwCl (tyL dA) s) (hF : SF sa (Az z) s s.heap) (hS : va_S (Az z) s.heap H locs) (hz : z ≤ s.heap.size) : ∀ U : State, U.heap = H → s.WarmedH U.vm → PcM av w z sa D dA (av.map (mv sa z)).toArray U := fun U hU hW => by
  refine ⟨rfl, by rw [hU]; exact hR, va_K.moved hW.alike hK, ?_, by rw [hU]; exact Nat.le_trans hz hS.1⟩
  rw [hU]
  exact (hF.kept hS.2.1).warm hW
theorem opt_map {sa : Nat → Nat} {z : Nat} (v : Option Value) (st : List Value) : (v.map (mv sa z)).toList ++ st.map (mv sa z) = (v.toList ++ st).map (mv sa z) := by cases v <;> rfl
/-- behind a call that returns or throws -/
theorem J_run {d' kb' sb' : Nat} {st0 av : List Value} {y : MI} {QY : Po} {p : Program} {l : Launch} {e : Env} {R : Room} {s : State} {m : MethodId} {args : Array Value} {below : List Frame} {meth : Method} {c : Code} {z : Nat} {sa : Nat → Nat} {D : va_G} {dA : Nat → ClassId} {Z : State → Prop} {mc ms : Nat} (C : Cx d mi p l R s m args meth c z sa D dA) (h1 : HR mi p l e R s m args below meth c z sa D dA Q Z mc ms) (h2 : HX mi p l e R s m args below meth c z sa D dA Q Z mc ms) (h3 : HT mi p l e R s m args below meth c z sa D dA Q Z mc ms) (h4 : mc ≤ R.cells) (h5 : ms ≤ R.slots)
    {H : Heap} {locs : List Loc} {cells slots : Nat} {ls : Array Slot} (hS : va_S (Az z) s.heap H locs) (hl : lrel sa z mi.2.2.1 lc ls) (h6 : cells + (kb + kb') ≤ mc) (h7 : slots + (sb + sb') ≤ ms)
    (hr : vx_Run p l e R s m args below meth c H locs cells slots kb' sb' (F0 m pc ls st0) (st.map (mv sa z)) (QcM QY z sa D dA (av.map (mv sa z)).toArray) (XcM QY z sa D dA) (Az z))
    (kk : ∀ (v : Option Value) (w' : Wd), QY (.inl v) w' → J d mi (pc + 3) lc (v.toList ++ st) w' kb sb Q) (kx : ∀ (E : String) (w' : Wd), QY (.inr E) w' → JX d mi pc lc w' kb sb Q E) : W p l e R s m args below meth c H locs cells slots Z (F0 m pc ls st0) := by
  intro T hT X
  rcases hr T hT X with ⟨v, st₀, t, T', L, h0, X', hL, e1, e2, ⟨v0, w', hv, hq, hR', hF⟩, stp⟩ | ⟨q, st₀, t, T', L, E, ce, h0, X', hL, e1, e2, ⟨w', hq, hR', hF⟩, hce, hcv, hcl, stp⟩
  · cases hv
    obtain ⟨g1, g2, g3⟩ := vx_keep (A1 := Az z) h0 e1 hS (fun _ _ h => h) (fun _ h => h) hL hF
    have k := kk v0 w' hq p l e R s m args below meth c z sa D dA Z mc ms C h1 h2 h3 h4 h5 T'.heap (locs ++ L) (cells + kb') (slots + sb') ls (by rw [e1]; exact hR') g3 hl (by omega) (by omega)
    rw [← opt_map] at k
    obtain ⟨t2, a1, b1⟩ := k T' rfl X'
    exact ⟨t2, stp t2 a1, b1⟩
  · obtain ⟨g1, g2, g3⟩ := vx_keep (A1 := Az z) h0 e1 hS (fun _ _ h => h) (fun _ h => h) hL hF
    obtain ⟨t2, a1, b1⟩ := kx E w' hq p l e R s m args below meth c z sa D dA Z mc ms C h1 h2 h3 h4 h5 T'.heap (locs ++ L) (cells + kb') (slots + sb') ls (st.map (mv sa z)) q ce (by rw [e1]; exact hR') g3 hl (by omega) (by omega) (by rw [e1]; exact hce) hcv hcl T' rfl X'
    exact ⟨t2, stp.trans a1, b1⟩
/-- behind a call that returns -/
theorem J_runN {d' kb' sb' : Nat} {st0 av : List Value} {y : MI} {QY : Po} {p : Program} {l : Launch} {e : Env} {R : Room} {s : State} {m : MethodId} {args : Array Value} {below : List Frame} {meth : Method} {c : Code} {z : Nat} {sa : Nat → Nat} {D : va_G} {dA : Nat → ClassId} {Z : State → Prop} {mc ms : Nat} (C : Cx d mi p l R s m args meth c z sa D dA) (h1 : HR mi p l e R s m args below meth c z sa D dA Q Z mc ms) (h2 : HX mi p l e R s m args below meth c z sa D dA Q Z mc ms) (h3 : HT mi p l e R s m args below meth c z sa D dA Q Z mc ms) (h4 : mc ≤ R.cells) (h5 : ms ≤ R.slots)
    {H : Heap} {locs : List Loc} {cells slots : Nat} {ls : Array Slot} (hS : va_S (Az z) s.heap H locs) (hl : lrel sa z mi.2.2.1 lc ls) (h6 : cells + (kb + kb') ≤ mc) (h7 : slots + (sb + sb') ≤ ms)
    (hr : va_Run p l e R s m args below meth c H locs cells slots kb' sb' (F0 m pc ls st0) (st.map (mv sa z)) (QcM QY z sa D dA (av.map (mv sa z)).toArray) (Az z))
    (kk : ∀ (v : Option Value) (w' : Wd), QY (.inl v) w' → J d mi (pc + 3) lc (v.toList ++ st) w' kb sb Q) : W p l e R s m args below meth c H locs cells slots Z (F0 m pc ls st0) := by
  intro T hT X
  obtain ⟨v, st₀, t, T', L, h0, X', hL, e1, e2, ⟨v0, w', hv, hq, hR', hF⟩, stp⟩ := hr T hT X
  cases hv
  obtain ⟨g1, g2, g3⟩ := vx_keep (A1 := Az z) h0 e1 hS (fun _ _ h => h) (fun _ h => h) hL hF
  have k := kk v0 w' hq p l e R s m args below meth c z sa D dA Z mc ms C h1 h2 h3 h4 h5 T'.heap (locs ++ L) (cells + kb') (slots + sb') ls (by rw [e1]; exact hR') g3 hl (by omega) (by omega)
  rw [← opt_map] at k
  obtain ⟨t2, a1, b1⟩ := k T' rfl X'
  exact ⟨t2, stp t2 a1, b1⟩
theorem ws_in {y : MI} (hh : headC y ∈ AL) : ∀ w ∈ headC y :: AL, w ∈ AL := fun w h => (List.mem_cons.mp h).elim (fun e => e ▸ hh) (fun h => h)
theorem J_callV {idx n d' kb' sb' : Nat} {y : MI} {a : Nat} {As st0 : List Value} {QY : Po} (hd : decode mi.2.1 pc = .ok (.invokevirtual idx, 3)) (hY : YL y n) (hL : Cond.methodLink mi.1.cls idx y.1 ∈ AL ∧ Cond.instanceMethod y.1 ∈ AL ∧ Cond.selects y.1.cls y.1 y.1 ∈ AL) (hrec : Rc w a y.1.cls)
    (hM : MC d' y kb' sb' (.ref a :: As) w QY) (hn : As.length = n) (hst : st0 = As.reverse ++ .ref a :: st) (hcat : (st.map fun v => v.category).sum ≤ 8) (hdd : d' + 1 ≤ d)
    (kk : ∀ (v : Option Value) (w' : Wd), QY (.inl v) w' → J d mi (pc + 3) lc (v.toList ++ st) w' kb sb Q) (kx : ∀ (E : String) (w' : Wd), QY (.inr E) w' → JX d mi pc lc w' kb sb Q E) : J d mi pc lc st0 w (kb + kb') (sb + sb') Q := by
  intro p l e R s m args below meth c z sa D dA Z mc ms C h1 h2 h3 h4 h5 H locs cells slots ls hR hS hl h6 h7
  obtain ⟨y1, y2, y3, y4, y5⟩ := hY
  have hroom := C.room
  have hws : ∀ w ∈ wsV mi.1.cls idx y.1.cls y.1 (headC y :: AL), w ∈ AL := fun w h => by
    rcases List.mem_append.mp h with h | h
    · simp only [List.mem_cons, List.not_mem_nil, or_false] at h
      rcases h with rfl | rfl | rfl | rfl
      · exact hL.1
      · exact hL.2.1
      · exact hL.2.2
      · exact y3
    · exact ws_in y2 w h
  refine J_run (y := y) (d' := d') (av := .ref a :: As) C h1 h2 h3 h4 h5 hS hl h6 h7 (vx_runV (As := As.map (mv sa z)) (b := adr sa z a) C.1 (hM l C.2.2.2.2.2.1 z sa D dA) (cwV n C.hts (AL_goodIn hws) (by rw [y1]) rfl rfl ⟨rfl, y4.1, y4.2.1, y4.2.2⟩ ⟨by show d' + 1 ≤ R.frames; omega, by show 8 + (y.2.2.1 + 11) + 64 * d' ≤ R.locals; omega⟩) ⟨PcM_blind _ _ _ _ _ _, hrec.cell hR C.hK C.hF hS, fun U hU hW => Pre_of hR C.hK C.hF hS C.hz U hU hW⟩ rfl (by rw [List.length_map]; exact hn) hl.1 (by rw [hst]; simp [mv]) (lv_room (by rw [mv_cats]; exact hcat)) hd ⟨by omega, by omega⟩) kk kx
theorem J_callS {idx n d' kb' sb' : Nat} {y : MI} {As st0 : List Value} {QY : Po} (hd : decode mi.2.1 pc = .ok (.invokestatic idx, 3)) (hY : YL y n) (hL : Cond.methodLink mi.1.cls idx y.1 ∈ AL ∧ Cond.static y.1 ∈ AL)
    (hM : MC d' y kb' sb' As w QY) (hn : As.length = n) (hst : st0 = As.reverse ++ st) (hcat : (st.map fun v => v.category).sum ≤ 8) (hdd : d' + 1 ≤ d)
    (kk : ∀ (v : Option Value) (w' : Wd), QY (.inl v) w' → J d mi (pc + 3) lc (v.toList ++ st) w' kb sb Q) (kx : ∀ (E : String) (w' : Wd), QY (.inr E) w' → JX d mi pc lc w' kb sb Q E) : J d mi pc lc st0 w (kb + kb') (sb + sb') Q := by
  intro p l e R s m args below meth c z sa D dA Z mc ms C h1 h2 h3 h4 h5 H locs cells slots ls hR hS hl h6 h7
  obtain ⟨y1, y2, y3, y4, y5⟩ := hY
  have hroom := C.room
  have hws : ∀ w ∈ va_wsS mi.1.cls idx y.1 (headC y :: AL), w ∈ AL := fun w h => by
    rcases List.mem_append.mp h with h | h
    · simp only [List.mem_cons, List.not_mem_nil, or_false] at h
      rcases h with rfl | rfl | rfl
      · exact hL.1
      · exact hL.2
      · exact y3
    · exact ws_in y2 w h
  refine J_run (y := y) (d' := d') (av := As) C h1 h2 h3 h4 h5 hS hl h6 h7 (vx_runS (As := As.map (mv sa z)) C.1 (hM l C.2.2.2.2.2.1 z sa D dA) (va_cwS n C.hts (AL_goodIn hws) (by rw [y1]) rfl rfl ⟨y4.1, y4.2.1, y4.2.2⟩ ⟨by show d' + 1 ≤ R.frames; omega, by show 8 + (y.2.2.1 + 11) + 64 * d' ≤ R.locals; omega⟩) ⟨PcM_blind _ _ _ _ _ _, fun U hU hW => Pre_of hR C.hK C.hF hS C.hz U hU hW⟩ rfl (by rw [List.length_map]; exact hn) hl.1 (by rw [hst]; simp) (lv_room (by rw [mv_cats]; exact hcat)) hd ⟨by omega, by omega⟩) kk kx
theorem J_callSH {idx n d' kb' sb' : Nat} {y : MI} {As st0 : List Value} {QY : Po} (hd : decode mi.2.1 pc = .ok (.invokestatic idx, 3)) (hh : headC y = .codeWith y.1 y.2.1 y.2.2.1 y.2.2.2.1 y.2.2.2.2) (hY : headC y ∈ AL ∧ Cond.initialized y.1.cls ∈ AL ∧ (y.1.cls ≠ "java/lang/invoke/MethodHandle" ∧ y.1.cls ≠ "java/lang/invoke/VarHandle" ∧ (parseMethodDescriptor y.1.desc).map (fun d => d.parameters.length) = some n) ∧ y.2.2.1 ≤ 40) (hL : Cond.methodLink mi.1.cls idx y.1 ∈ AL ∧ Cond.static y.1 ∈ AL)
    (hM : MC d' y kb' sb' As w QY) (hn : As.length = n) (hst : st0 = As.reverse ++ st) (hcat : (st.map fun v => v.category).sum ≤ 8) (hdd : d' + 1 ≤ d)
    (kk : ∀ (v : Option Value) (w' : Wd), QY (.inl v) w' → J d mi (pc + 3) lc (v.toList ++ st) w' kb sb Q) (kx : ∀ (E : String) (w' : Wd), QY (.inr E) w' → JX d mi pc lc w' kb sb Q E) : J d mi pc lc st0 w (kb + kb') (sb + sb') Q := by
  intro p l e R s m args below meth c z sa D dA Z mc ms C h1 h2 h3 h4 h5 H locs cells slots ls hR hS hl h6 h7
  obtain ⟨y2, y3, y4, y5⟩ := hY
  have hroom := C.room
  have hws : ∀ w ∈ va_wsS mi.1.cls idx y.1 (headC y :: AL), w ∈ AL := fun w h => by
    rcases List.mem_append.mp h with h | h
    · simp only [List.mem_cons, List.not_mem_nil, or_false] at h
      rcases h with rfl | rfl | rfl
      · exact hL.1
      · exact hL.2
      · exact y3
    · exact ws_in y2 w h
  refine J_run (y := y) (d' := d') (av := As) C h1 h2 h3 h4 h5 hS hl h6 h7 (vx_runSX (hh := y.2.2.2.2) (As := As.map (mv sa z)) C.1 (hM l C.2.2.2.2.2.1 z sa D dA) (vx_cwSW n C.hts (AL_goodIn hws) (by rw [hh]) rfl rfl ⟨y4.1, y4.2.1, y4.2.2⟩ ⟨by show d' + 1 ≤ R.frames; omega, by show 8 + (y.2.2.1 + 11) + 64 * d' ≤ R.locals; omega⟩) ⟨PcM_blind _ _ _ _ _ _, fun U hU hW => Pre_of hR C.hK C.hF hS C.hz U hU hW⟩ rfl (by rw [List.length_map]; exact hn) hl.1 (by rw [hst]; simp) (lv_room (by rw [mv_cats]; exact hcat)) hd ⟨by omega, by omega⟩) kk kx
theorem no_X {QY : Po} (h : ∀ E w, ¬ QY (.inr E) w) (z : Nat) (sa : Nat → Nat) (D : va_G) (dA : Nat → ClassId) : ∀ E st t, ¬ XcM QY z sa D dA E st t := fun E st t ⟨w, hq, _⟩ => h E w hq
/-- a private method of a nest mate -/
theorem J_callSN {idx n d' kb' sb' : Nat} {y : MI} {As st0 : List Value} {QY : Po} {host : String} (hd : decode mi.2.1 pc = .ok (.invokestatic idx, 3)) (hY : YL y n) (hL : (mi.1.cls, idx, y.1, host) ∈ SFM ∧ Cond.static y.1 ∈ AL)
    (hM : MC d' y kb' sb' As w QY) (hno : ∀ E w, ¬ QY (.inr E) w) (hn : As.length = n) (hst : st0 = As.reverse ++ st) (hcat : (st.map fun v => v.category).sum ≤ 8) (hdd : d' + 1 ≤ d)
    (kk : ∀ (v : Option Value) (w' : Wd), QY (.inl v) w' → J d mi (pc + 3) lc (v.toList ++ st) w' kb sb Q) : J d mi pc lc st0 w (kb + kb') (sb + sb') Q := by
  intro p l e R s m args below meth c z sa D dA Z mc ms C h1 h2 h3 h4 h5 H locs cells slots ls hR hS hl h6 h7
  obtain ⟨y1, y2, y3, y4, y5⟩ := hY
  have hroom := C.room
  refine J_runN (y := y) (d' := d') (av := As) C h1 h2 h3 h4 h5 hS hl h6 h7 (va_runSN (host := host) (As := As.map (mv sa z)) C.1 (Met_of_vx (hM l C.2.2.2.2.2.1 z sa D dA) (no_X hno z sa D dA)) ⟨va_cnB n C.hts (AL_goodIn (ws_in y2)) (by rw [y1]) rfl rfl (C.hF.2.2.2.2.2.2.1 _ hL.1) (C.hts _ y3) ⟨y4.1, y4.2.1, y4.2.2⟩ ⟨by show d' + 1 ≤ R.frames; omega, by show 8 + (y.2.2.1 + 11) + 64 * d' ≤ R.locals; omega⟩, C.hts _ hL.2, trivial⟩ ⟨PcM_blind _ _ _ _ _ _, fun U hU hW => Pre_of hR C.hK C.hF hS C.hz U hU hW⟩ rfl (by rw [List.length_map]; exact hn) hl.1 (by rw [hst]; simp) (lv_room (by rw [mv_cats]; exact hcat)) hd ⟨by omega, by omega⟩) kk
/-- a constructor -/
theorem J_callI {idx n d' kb' sb' : Nat} {y : MI} {a : Nat} {As st0 : List Value} {QY : Po} (hd : decode mi.2.1 pc = .ok (.invokespecial idx, 3)) (hY : YL y n) (hr : y.2.2.2.1 = none) (hy : y.1.name = "<init>") (hL : Cond.methodLink mi.1.cls idx y.1 ∈ AL ∧ Cond.instanceMethod y.1 ∈ AL)
    (hM : MC d' y kb' sb' (.ref a :: As) w QY) (hno : ∀ E w, ¬ QY (.inr E) w) (hn : As.length = n) (hst : st0 = As.reverse ++ .ref a :: st) (hcat : (st.map fun v => v.category).sum ≤ 8) (hdd : d' + 1 ≤ d)
    (kk : ∀ (v : Option Value) (w' : Wd), QY (.inl v) w' → J d mi (pc + 3) lc (v.toList ++ st) w' kb sb Q) : J d mi pc lc st0 w (kb + kb') (sb + sb') Q := by
  intro p l e R s m args below meth c z sa D dA Z mc ms C h1 h2 h3 h4 h5 H locs cells slots ls hR hS hl h6 h7
  obtain ⟨y1, y2, y3, y4, y5⟩ := hY
  have hroom := C.room
  refine J_runN (y := y) (d' := d') (av := .ref a :: As) C h1 h2 h3 h4 h5 hS hl h6 h7 (va_runI (b := adr sa z a) (As := As.map (mv sa z)) C.1 (Met_of_vx (hM l C.2.2.2.2.2.1 z sa D dA) (no_X hno z sa D dA)) (cwI n C.hts (AL_goodIn (ws_in y2)) (by rw [y1, hr]) rfl rfl (C.hts _ y3) (C.hts _ hL.1) (C.hts _ hL.2) hy ⟨y4.1, y4.2.1, y4.2.2⟩ ⟨by show d' + 1 ≤ R.frames; omega, by show 8 + (y.2.2.1 + 11) + 64 * d' ≤ R.locals; omega⟩) ⟨PcM_blind _ _ _ _ _ _, fun U hU hW => Pre_of hR C.hK C.hF hS C.hz U hU hW⟩ rfl (by rw [List.length_map]; exact hn) hl.1 (by rw [hst]; simp [mv]) (lv_room (by rw [mv_cats]; exact hcat)) hd ⟨by omega, by omega⟩) kk
/-- a nest mate's private constructor -/
theorem J_callIN {idx n d' kb' sb' : Nat} {y : MI} {a : Nat} {As st0 : List Value} {QY : Po} {host : String} (hd : decode mi.2.1 pc = .ok (.invokespecial idx, 3)) (hY : YL y n) (hr : y.2.2.2.1 = none) (hy : y.1.name = "<init>") (hL : (mi.1.cls, idx, y.1, host) ∈ SFM ∧ Cond.instanceMethod y.1 ∈ AL)
    (hM : MC d' y kb' sb' (.ref a :: As) w QY) (hno : ∀ E w, ¬ QY (.inr E) w) (hn : As.length = n) (hst : st0 = As.reverse ++ .ref a :: st) (hcat : (st.map fun v => v.category).sum ≤ 8) (hdd : d' + 1 ≤ d)
    (kk : ∀ (v : Option Value) (w' : Wd), QY (.inl v) w' → J d mi (pc + 3) lc (v.toList ++ st) w' kb sb Q) : J d mi pc lc st0 w (kb + kb') (sb + sb') Q := by
  intro p l e R s m args below meth c z sa D dA Z mc ms C h1 h2 h3 h4 h5 H locs cells slots ls hR hS hl h6 h7
  obtain ⟨y1, y2, y3, y4, y5⟩ := hY
  have hroom := C.room
  refine J_runN (y := y) (d' := d') (av := .ref a :: As) C h1 h2 h3 h4 h5 hS hl h6 h7 (va_runIN (host := host) (b := adr sa z a) (As := As.map (mv sa z)) C.1 (Met_of_vx (hM l C.2.2.2.2.2.1 z sa D dA) (no_X hno z sa D dA)) ⟨va_cnB n C.hts (AL_goodIn (ws_in y2)) (by rw [y1, hr]) rfl rfl (C.hF.2.2.2.2.2.2.1 _ hL.1) (C.hts _ y3) ⟨y4.1, y4.2.1, y4.2.2⟩ ⟨by show d' + 1 ≤ R.frames; omega, by show 8 + (y.2.2.1 + 11) + 64 * d' ≤ R.locals; omega⟩, hy, C.hts _ hL.2⟩ ⟨PcM_blind _ _ _ _ _ _, fun U hU hW => Pre_of hR C.hK C.hF hS C.hz U hU hW⟩ rfl (by rw [List.length_map]; exact hn) hl.1 (by rw [hst]; simp [mv]) (lv_room (by rw [mv_cats]; exact hcat)) hd ⟨by omega, by omega⟩) kk
/-- an inherited method of a superclass that isn't the class's own: Enum.ordinal -/
theorem J_callU {idx n d' kb' sb' : Nat} {y : MI} {x : MethodName} {CC : String} {a : Nat} {As st0 : List Value} {QY : Po} (hd : decode mi.2.1 pc = .ok (.invokevirtual idx, 3)) (hY : YL y n) (hyx : y.1 = ⟨y.1.cls, x.name, x.desc⟩) (hL : Cond.methodLink mi.1.cls idx x ∈ AL ∧ Cond.sameMethod x.cls y.1.cls x.name x.desc ∈ AL ∧ Cond.selects CC x y.1 ∈ AL ∧ Cond.instanceMethod y.1 ∈ AL) (hrec : Rc w a CC)
    (hM : MC d' y kb' sb' (.ref a :: As) w QY) (hno : ∀ E w, ¬ QY (.inr E) w) (hn : As.length = n) (hst : st0 = As.reverse ++ .ref a :: st) (hcat : (st.map fun v => v.category).sum ≤ 8) (hdd : d' + 1 ≤ d)
    (kk : ∀ (v : Option Value) (w' : Wd), QY (.inl v) w' → J d mi (pc + 3) lc (v.toList ++ st) w' kb sb Q) : J d mi pc lc st0 w (kb + kb') (sb + sb') Q := by
  intro p l e R s m args below meth c z sa D dA Z mc ms C h1 h2 h3 h4 h5 H locs cells slots ls hR hS hl h6 h7
  obtain ⟨y1, y2, y3, y4, y5⟩ := hY
  have hroom := C.room
  have hws : ∀ w ∈ va_wsU mi.1.cls idx CC y.1.cls x y.1 (headC y :: AL), w ∈ AL := fun w h => by
    rcases List.mem_append.mp h with h | h
    · simp only [List.mem_cons, List.not_mem_nil, or_false] at h
      rcases h with rfl | rfl | rfl | rfl | rfl
      · exact hL.1
      · exact hL.2.1
      · exact hL.2.2.1
      · exact hL.2.2.2
      · exact y3
    · exact ws_in y2 w h
  have hdx : (parseMethodDescriptor x.desc).map (fun d => d.parameters.length) = some n := by
    have := y4.2.2
    rw [hyx] at this
    exact this
  refine J_runN (y := y) (d' := d') (av := .ref a :: As) C h1 h2 h3 h4 h5 hS hl h6 h7 (va_runU (x := x) (owner := y.1.cls) (b := adr sa z a) (As := As.map (mv sa z)) C.1 (Met_of_vx (hM l C.2.2.2.2.2.1 z sa D dA) (no_X hno z sa D dA)) (va_cwU n C.hts (AL_goodIn hws) (by rw [y1]) rfl rfl hyx ⟨y4.1, y4.2.1, hdx⟩ ⟨by show d' + 1 ≤ R.frames; omega, by show 8 + (y.2.2.1 + 11) + 64 * d' ≤ R.locals; omega⟩) ⟨PcM_blind _ _ _ _ _ _, hrec.cell hR C.hK C.hF hS, fun U hU hW => Pre_of hR C.hK C.hF hS C.hz U hU hW⟩ rfl (by rw [List.length_map]; exact hn) hl.1 (by rw [hst]; simp [mv]) (lv_room (by rw [mv_cats]; exact hcat)) hd ⟨by omega, by omega⟩) kk
theorem J_objInit {idx : Nat} {a : Nat} (hd : decode mi.2.1 pc = .ok (.invokespecial idx, 3)) (hL : Cond.methodLink mi.1.cls idx Lib.objectInit ∈ AL ∧ Cond.instanceMethod Lib.objectInit ∈ AL ∧ Cond.code Lib.objectInit ⟨#[0xb1]⟩ 1 none ∈ AL) (hcat : (st.map fun v => v.category).sum ≤ 8) (hdd : 1 ≤ d) (kk : J d mi (pc + 3) lc st w kb sb Q) : J d mi pc lc (.ref a :: st) w kb sb Q := by
  intro p l e R s m args below meth c z sa D dA Z mc ms C h1 h2 h3 h4 h5 H locs cells slots ls hR hS hl h6 h7
  have hroom := C.room
  exact W.objInit C.1.1 C.1.2.1 C.own (C.hts _ hL.1) (C.hts _ hL.2.1) (C.hts _ hL.2.2) rfl (by rw [C.1.2.2.1]; exact hl.1) (a := adr sa z a) (rest := st.map (mv sa z)) rfl hd (by omega) (by rw [mv_cats]; show 2 * 0 + _ + 12 ≤ _; omega) (kk p l e R s m args below meth c z sa D dA Z mc ms C h1 h2 h3 h4 h5 H locs cells slots ls hR hS hl h6 h7)
end
end JCALLS

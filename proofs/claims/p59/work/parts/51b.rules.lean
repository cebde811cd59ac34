/-! RULES for what texts are made with -/
section JTXR
variable {d : Nat} {mi : MI} {pc : Nat} {lc : List (Option Value)} {st : List Value} {w : Wd} {kb sb : Nat} {Q : Po}
theorem J_null (hd : decode mi.2.1 pc = .ok (.aconst_null, 1)) (kk : J d mi (pc + 1) lc (.null :: st) w kb sb Q) : J d mi pc lc st w kb sb Q := by
  intro p l e R s m args below meth c z sa D dA Z mc ms C h1 h2 h3 h4 h5 H locs cells slots ls hR hS hl h6 h7
  exact lv_null C.1.1 C.1.2.1 hd (kk p l e R s m args below meth c z sa D dA Z mc ms C h1 h2 h3 h4 h5 H locs cells slots ls hR hS hl h6 h7)
theorem J_ifnonnull {x : Nat} {off : Int} {tgt : Nat} (hd : decode mi.2.1 pc = .ok (.ifnonnull off, 3)) (ht : (pc : Int) + off = (tgt : Int)) (kk : J d mi tgt lc st w kb sb Q) : J d mi pc lc (.ref x :: st) w kb sb Q := by
  intro p l e R s m args below meth c z sa D dA Z mc ms C h1 h2 h3 h4 h5 H locs cells slots ls hR hS hl h6 h7
  exact lv_ifnonnull C.1.1 C.1.2.1 hd ht (kk p l e R s m args below meth c z sa D dA Z mc ms C h1 h2 h3 h4 h5 H locs cells slots ls hR hS hl h6 h7)
/-- a row of bytes: a cell of the world, or a constant -/
def BSrc (w : Wd) (q n : Nat) (f : Nat → Int32) : Prop := (w.1 q = .inl (3, n, .inl f) ∨ (q < 100 ∧ ((.byte : FieldType), q, n, (fun j => (.int (f j) : Value))) ∈ SFT)) ∧ (∀ j, j < n → fits .byte (.int (f j)) = true) ∧ n ≤ 1000
theorem BSrc.cell {q n : Nat} {f : Nat → Int32} (h : BSrc w q n f) {z : Nat} {sa : Nat → Nat} {D : va_G} {dA : Nat → ClassId} {s : State} {H : Heap} {locs : List Loc} (hR : Rel D dA sa z w H) (hK : va_K D vwCl (tyL dA) s) (hF : SF sa (Az z) s s.heap) (hS : va_S (Az z) s.heap H locs) : ∃ cs : Cell, H[adr sa z q]? = some cs ∧ s.isArrayOf cs .byte ∧ cs.vm ≠ .unknown ∧ n ≤ cs.slots.size ∧ cs.slots.size.toInt32 = Int32.ofNat n ∧ ∀ j, j < n → cs.slots[j]? = some (.int (f j)) := by
  obtain ⟨h | ⟨hq, h⟩, -, hn⟩ := h
  · obtain ⟨g1, g2, g3⟩ := hR.at h (inl_nd _)
    have g4 : H[adr sa z q]? = some (vp_cell (dA 3) (n, .inl f)) := g3
    refine ⟨_, g4, (hK.2 3 _ rfl).1 n (fun j => .int (f j)), (fun q => by cases q), ?_, ?_, fun j hj => ?_⟩
    · show n ≤ (arrV _ _ _).slots.size
      rw [arrV_size]
      exact Nat.le_refl _
    · show (arrV _ _ _).slots.size.toInt32 = _
      rw [arrV_size]
    · show (arrV _ _ _).slots[j]? = _
      rw [arrV_read _ _ hj]
  · have h9 := (hF.2.1 _ h).kept hS.2.1
    obtain ⟨cs, k1, k2, k3, k4, k5, k6, -⟩ := h9
    refine ⟨cs, ?_, k2, k3, k4, k5, k6⟩
    rw [adr_lt hq]
    exact k1
theorem J_blen {q n : Nat} {f : Nat → Int32} (hd : decode mi.2.1 pc = .ok (.arraylength, 1)) (hB : BSrc w q n f) (kk : J d mi (pc + 1) lc (.int (nI n) :: st) w kb sb Q) : J d mi pc lc (.ref q :: st) w kb sb Q := by
  obtain ⟨h | ⟨hq, h⟩, -, hn⟩ := hB
  · exact J_alen hd h (by decide) rfl kk
  · exact J_salen hd h hq rfl kk
theorem J_bget {q n j : Nat} {f : Nat → Int32} (hd : decode mi.2.1 pc = .ok (.baload, 1)) (hB : BSrc w q n f) (hj : j < n) (kk : J d mi (pc + 1) lc (.int (f j) :: st) w kb sb Q) : J d mi pc lc (.int (nI j) :: .ref q :: st) w kb sb Q := by
  have hn := hB.2.2
  obtain ⟨h | ⟨hq, h⟩, -, -⟩ := hB
  · refine J_baload hd h (vp_in_nI hj (by omega)) ?_
    rw [nI_clamp (by omega)]
    exact kk
  · refine J_sbald (v := .int (f j)) hd h hq (vp_in_nI hj (by omega)) (by rw [nI_clamp (by omega)]) rfl kk
theorem J_bput {a n j : Nat} {f : Nat → Int32} {x : Int32} (hd : decode mi.2.1 pc = .ok (.bastore, 1)) (ha : w.1 a = .inl (3, n, .inl f)) (hj : j < n) (hn : n ≤ 1000) (kk : ∀ (w' : Wd), Up w w' a (.inl (3, n, .inl (upd f j (vp_nar .byte x)))) → J d mi (pc + 1) lc st w' kb sb Q) : J d mi pc lc (.int x :: .int (nI j) :: .ref a :: st) w kb sb Q := by
  refine J_bastore hd ha (vp_in_nI hj (by omega)) ?_
  rw [nI_clamp (by omega)]
  exact kk _ (Up_up _ _ _)
theorem fits_nar (x : Int32) : fits .byte (.int (vp_nar .byte x)) = true := by
  have h := fits_narrow_byte x
  exact h

theorem J_bcopy {idx a b n0 n1 : Nat} {f g : Nat → Int32} {sp dp n : Int32} (hd : decode mi.2.1 pc = .ok (.invokestatic idx, 3)) (hL : Cond.methodLink mi.1.cls idx arraycopyName ∈ AL ∧ Cond.native arraycopyName ∈ AL ∧ Cond.static arraycopyName ∈ AL ∧ Cond.initialized "java/lang/System" ∈ AL) (hB : BSrc w a n0 f) (hb : w.1 b = .inl (3, n1, .inl g)) (g1 : ¬ sp < 0) (g2 : ¬ dp < 0) (g3 : ¬ n < 0) (g4 : sp.toNatClampNeg + n.toNatClampNeg ≤ n0) (g5 : dp.toNatClampNeg + n.toNatClampNeg ≤ n1) (hcat : (st.map fun v => v.category).sum ≤ 8) (hdd : 2 ≤ d)
    (kk : J d mi (pc + 3) lc st (upW w b (.inl (3, n1, .inl (va_cpy f g sp.toNatClampNeg dp.toNatClampNeg n.toNatClampNeg)))) kb sb Q) : J d mi pc lc (.int n :: .int dp :: .ref b :: .int sp :: .ref a :: st) w kb sb Q := by
  intro p l e R s m args below meth c z sa D dA Z mc ms C h1 h2 h3 h4 h5 H locs cells slots ls hR hS hl h6 h7
  obtain ⟨cs, c1, ⟨c2, k0, hk0, cm0, hkk0⟩, c3, c4, c5, c6⟩ := hB.cell hR C.hK C.hF hS
  obtain ⟨b1, b2, b3⟩ := hR.at hb (inl_nd _)
  have hroom := C.room
  have hc0 : H[adr sa z a]? = some cs := c1
  have hc1 : H[adr sa z b]? = some (vp_cell (dA 3) (n1, .inl g)) := b3
  have nn : ∀ x : Int32, ¬ x < 0 → x.toInt = (x.toNatClampNeg : Int) := by
    intro x hx
    have hx0 : (0 : Int) ≤ x.toInt := by
      have := Int32.not_lt.mp hx
      simpa using Int32.le_iff_toInt_le.mp this
    show x.toInt = ((x.toInt.toNat : Nat) : Int)
    omega
  obtain ⟨-, k1, hk1, cm1, hkk1⟩ := (C.hK.2 3 _ rfl).1 n1 (fun j => .int (g j))
  intro T hT X
  obtain ⟨vm', X', step⟩ := X.arraycopy C.1.1 C.own (C.hts _ hL.1) (C.hts _ hL.2.1) (C.hts _ hL.2.2.1) (C.hts _ hL.2.2.2) (src := adr sa z a) (dst := adr sa z b) (cs := cs) (cd := vp_cell (dA 3) (n1, .inl g)) (srcPos := sp) (destPos := dp) (n := n) (by rw [hT]; exact hc0) (by rw [hT]; exact hc1)
    c2 (fun _ h => by cases h) c3 (fun h => by cases h) hk0 hk1 hkk0 hkk1 (by rfl) g1 g2 g3
    (by rw [nn sp g1, nn n g3]; omega)
    (by rw [nn dp g2, nn n g3]; show ¬ _ > ((arrV (dA 3) n1 (fun j => .int (g j))).slots.size : Int); rw [arrV_size]; omega)
    (fun vm₁ _ i hi => by
      have e : cs.slots.getD (sp.toNatClampNeg + i) .null = .int (f (sp.toNatClampNeg + i)) := by
        rw [Array.getD_eq_getD_getElem?, c6 _ (by omega)]
        rfl
      refine ⟨?_, ?_⟩
      · rw [e]
        exact hB.2.1 _ (by omega)
      · rw [e]
        exact trivial)
    (g := F0 m pc ls ((.int n :: .int dp :: .ref b :: .int sp :: .ref a :: st).map (mv sa z))) rfl (by rw [C.1.2.2.1]; exact hl.1) (rest := st.map (mv sa z)) rfl (by rw [C.1.2.1]; exact hd) (by omega) (by
      have := mv_cats sa z st
      have h9 : nativeFrameWords "java/lang/System" "arraycopy" 5 + 11 ≤ 100 := by decide +kernel
      rw [mv_cats]
      show 2 * 0 + _ + _ ≤ _
      omega)
  have e1 : copied cs (vp_cell (dA 3) (n1, .inl g)) sp dp n = vp_cell (dA 3) (n1, .inl (va_cpy f g sp.toNatClampNeg dp.toNatClampNeg n.toNatClampNeg)) := va_copiedX (fun z => .int z) cs (dA 3) f g c6 g4
  rw [e1] at X' step
  have hl9 : adr sa z b < H.size := (Array.getElem?_eq_some_iff.mp hc1).1
  have hheap : ((T.setVm vm').setCell (adr sa z b) (vp_cell (dA 3) (n1, .inl (va_cpy f g sp.toNatClampNeg dp.toNatClampNeg n.toNatClampNeg)))).heap = H.setIfInBounds (adr sa z b) (vp_cell (dA 3) (n1, .inl (va_cpy f g sp.toNatClampNeg dp.toNatClampNeg n.toNatClampNeg))) := by rw [← hT]; rfl
  have oq : ∀ q : Nat, q ≠ adr sa z b → (H.setIfInBounds (adr sa z b) (vp_cell (dA 3) (n1, .inl (va_cpy f g sp.toNatClampNeg dp.toNatClampNeg n.toNatClampNeg))))[q]? = H[q]? := fun q hq => by simp [Array.getElem?_setIfInBounds, Ne.symm hq]
  have hzb : z ≤ adr sa z b := by rw [adr_ge b1]; omega
  have hS1 : ∀ L : List Loc, (∀ q ∈ L, q.base = adr sa z b) → va_S (Az z) s.heap (H.setIfInBounds (adr sa z b) (vp_cell (dA 3) (n1, .inl (va_cpy f g sp.toNatClampNeg dp.toNatClampNeg n.toNatClampNeg)))) (locs ++ L) := by
    intro L hL9
    refine ⟨by simp; exact hS.1, fun q q1 q2 => ?_, fun q hq => ?_⟩
    · rw [oq q (fun e => q2 (by rw [e]; exact hzb))]
      exact hS.2.1 q q1 q2
    · rcases List.mem_append.mp hq with h | h
      · exact hS.2.2 q h
      · rw [hL9 q h]
        exact hzb
  obtain ⟨t, t1, t2⟩ := kk p l e R s m args below meth c z sa D dA Z mc ms C h1 h2 h3 h4 h5 _ _ cells slots ls (hR.set hb (inl_nd _) (by simp) oq (show va_at D vwCl (adr sa z b, tr sa z dA (.inl (3, n1, .inl (va_cpy f g sp.toNatClampNeg dp.toNatClampNeg n.toNatClampNeg)))) _ from (show (H.setIfInBounds (adr sa z b) _)[adr sa z b]? = some _ by simp [Array.getElem?_setIfInBounds, hl9]; rfl))) (hS1 _ (fun q hq => by obtain ⟨y, -, hy⟩ := List.mem_map.mp hq; rw [← hy])) hl h6 h7 _ hheap X'
  exact ⟨t, step t t1, t2⟩
theorem K_bcopy {idx a b n0 n1 sp dp n : Nat} {f g : Nat → Int32} (hd : decode mi.2.1 pc = .ok (.invokestatic idx, 3)) (hL : Cond.methodLink mi.1.cls idx arraycopyName ∈ AL ∧ Cond.native arraycopyName ∈ AL ∧ Cond.static arraycopyName ∈ AL ∧ Cond.initialized "java/lang/System" ∈ AL) (hB : BSrc w a n0 f) (hb : w.1 b = .inl (3, n1, .inl g)) (hg : sb_Fit g) (h4 : sp + n ≤ n0) (h5 : dp + n ≤ n1) (h1000 : n1 ≤ 1000) (hcat : (st.map fun v => v.category).sum ≤ 8) (hdd : 2 ≤ d)
    (kk : ∀ (w' : Wd) (g' : Nat → Int32), Up w w' b (.inl (3, n1, .inl g')) → sb_Fit g' → J d mi (pc + 3) lc st w' kb sb Q) : J d mi pc lc (.int (nI n) :: .int (nI dp) :: .ref b :: .int (nI sp) :: .ref a :: st) w kb sb Q := by
  have hn0 := hB.2.2
  refine J_bcopy hd hL hB hb (nI_pos (by omega)) (nI_pos (by omega)) (nI_pos (by omega)) (by rw [nI_clamp (by omega), nI_clamp (by omega)]; exact h4) (by rw [nI_clamp (by omega), nI_clamp (by omega)]; exact h5) hcat hdd ?_
  refine kk _ _ (Up_up _ _ _) ?_
  rw [nI_clamp (show sp < 2 ^ 31 by omega), nI_clamp (show dp < 2 ^ 31 by omega), nI_clamp (show n < 2 ^ 31 by omega)]
  intro j
  unfold va_cpy
  split
  · exact hB.2.1 _ (by omega)
  · exact hg j
theorem J_bclone {idx a n : Nat} {f : Nat → Int32} (hd : decode mi.2.1 pc = .ok (.invokevirtual idx, 3)) (hL : Cond.methodLink mi.1.cls idx ⟨"[B", "clone", "()Ljava/lang/Object;"⟩ ∈ AL ∧ Cond.sameMethod "[B" "java/lang/Object" "clone" "()Ljava/lang/Object;" ∈ AL ∧ Cond.native ⟨"java/lang/Object", "clone", "()Ljava/lang/Object;"⟩ ∈ AL ∧ Cond.instanceMethod ⟨"java/lang/Object", "clone", "()Ljava/lang/Object;"⟩ ∈ AL ∧ Cond.selects "[B" ⟨"[B", "clone", "()Ljava/lang/Object;"⟩ ⟨"java/lang/Object", "clone", "()Ljava/lang/Object;"⟩ ∈ AL) (hc : Cond.castable "[B" "java/lang/Cloneable" ∈ OL) (ha : w.1 a = .inl (3, n, .inl f)) (hf : sb_Fit f) (hcat : (st.map fun v => v.category).sum ≤ 8) (hdd : 1 ≤ d)
    (kk : ∀ (q : Nat) (w' : Wd), NewC w w' q (.inl (3, n, .inl f)) → J d mi (pc + 3) lc (.ref q :: st) w' kb sb Q) : J d mi pc lc (.ref a :: st) w (kb + 1) (sb + n) Q := by
  refine J_fresh fun n9 hn9 => ?_
  have k9 := kk (100 + n9) (nwW (w.1, n9, true) (.inl (3, n, .inl f))) (nwC hn9 _)
  intro p l e R s m args below meth c z sa D dA Z mc ms C h1 h2 h3 h4 h5 H locs cells slots ls hR hS hl h6 h7 T hT X
  have hz : H.size = z + n9 := hR.1 rfl
  obtain ⟨g1, g2, g3⟩ := hR.at (show (w.1, n9, true).1 a = _ from ha) (inl_nd _)
  have hcell : H[adr sa z a]? = some (vp_cell (dA 3) (n, .inl f)) := g3
  have hroom := C.room
  have hnm : s.vm.findClass "[B" = some (dA 3) := va_nm_byte (C.hK.2 3 _ rfl).2
  obtain ⟨c0, t0', f1, f2, f3⟩ := Cond.castable_spec (va_Nw.use (A := args) rfl (C.hF.2.2.2.2.2.2.2.2.2.2.2.2.2.1 _ hc))
  cases hnm.symm.trans f1
  have hsz : (vp_cell (dA 3) (n, .inl f)).slots.size = n := arrV_size _ _ _
  have hcellT : T.heap[adr sa z a]? = some (vp_cell (dA 3) (n, .inl f)) := by rw [hT]; exact hcell
  obtain ⟨-, kA, hkA, comp, hkind⟩ := State.isArrayOf_alike X.warmed.alike ((C.hK.2 3 _ rfl).1 0 (fun _ => .null))
  obtain ⟨-, kS, hkS, compS, hkindS⟩ := (C.hK.2 3 _ rfl).1 0 (fun _ => .null)
  obtain ⟨vm', X', step⟩ := X.cloneArray C.1.1 C.own (C.hts _ hL.1) (C.hts _ hL.2.1) (C.hts _ hL.2.2.1) (C.hts _ hL.2.2.2.1) (C.hts _ hL.2.2.2.2) (a := adr sa z a) (cell := vp_cell (dA 3) (n, .inl f)) hcellT (fun k h => by cases h) (fun h => by cases h) hnm f2 f3
    (fun i v hv => by
      have hk' : T.vm.classes[dA 3]? = some kA := hkA
      have hft : fits .byte v = true := by
        have hlt : i < n := by
          have := (Array.getElem?_eq_some_iff.mp hv).1
          rw [hsz] at this
          exact this
        have hv2 : (arrV (dA 3) n (fun j => .int (f j))).slots[i]? = some v := hv
        rw [arrV_read _ _ hlt] at hv2
        cases hv2
        exact hf i
      show T.fitsSlot (dA 3) _ i v = true
      simpa [State.fitsSlot, State.slotType?, hk', hkind] using hft)
    (g := F0 m pc ls ((Value.ref a :: st).map (mv sa z))) rfl (by rw [C.1.2.2.1]; exact hl.1) (rest := st.map (mv sa z)) rfl (by rw [C.1.2.1]; exact hd) (by omega) (by have := mv_cats sa z st; show 2 * 0 + _ + 14 ≤ _; rw [mv_cats]; omega) (by omega) (by rw [hsz]; omega) (hloader := Vm.clonesLoader_of_array hkS hkindS)
  rw [hsz] at X'
  generalize hH1 : H.push (vp_cell (dA 3) (n, .inl f)) = H1
  have z1 : H1.size = H.size + 1 := by rw [← hH1, Array.size_push]
  have e1 : H1[H.size]? = some (vp_cell (dA 3) (n, .inl f)) := by rw [← hH1, Array.getElem?_push_size]
  have o1 : ∀ q : Nat, q < H.size → H1[q]? = H[q]? := fun q hq => by rw [← hH1, Array.getElem?_push, if_neg (Nat.ne_of_lt hq)]
  have hs : va_S (Az z) s.heap H1 locs := ⟨Nat.le_trans hS.1 (by omega), fun x a1 a2 => (o1 x (Nat.lt_of_lt_of_le a1 hS.1)).trans (hS.2.1 x a1 a2), hS.2.2⟩
  have hadr : adr sa z (100 + n9) = T.heap.size := by rw [adr_ge (by omega), hT]; omega
  have k := k9 p l e R s m args below meth c z sa D dA Z mc ms C h1 h2 h3 h4 h5 H1 locs (cells + 1) (slots + n) ls (hR.new rfl z1 o1 (x := .inl (3, n, .inl f)) e1) hs hl (by omega) (by omega)
  rw [List.map_cons, show mv sa z (.ref (100 + n9)) = .ref T.heap.size from congrArg Value.ref hadr] at k
  obtain ⟨t, b1, b2⟩ := k _ (show ((T.setVm vm').pushCell (vp_cell (dA 3) (n, .inl f))).heap = H1 by rw [← hH1, ← hT]; rfl) X'
  exact ⟨t, step t b1, b2⟩
theorem J_castB {idx a n : Nat} {f : Nat → Int32} (hd : decode mi.2.1 pc = .ok (.checkcast idx, 3)) (hL : Cond.classLink mi.1.cls idx "[B" ∈ AL) (ha : w.1 a = .inl (3, n, .inl f)) (kk : J d mi (pc + 3) lc (.ref a :: st) w kb sb Q) : J d mi pc lc (.ref a :: st) w kb sb Q := by
  intro p l e R s m args below meth c z sa D dA Z mc ms C h1 h2 h3 h4 h5 H locs cells slots ls hR hS hl h6 h7
  obtain ⟨g1, g2, g3⟩ := hR.at ha (inl_nd _)
  exact va_castA C.1.1 C.1.2.1 C.own (C.hts _ hL) (one_P g3) 0 (cA := dA 3) (x := (n, .inl f)) rfl (va_nm_byte (C.hK.2 3 _ rfl).2) hd (kk p l e R s m args below meth c z sa D dA Z mc ms C h1 h2 h3 h4 h5 H locs cells slots ls hR hS hl h6 h7)
/-- super.m(..) on a builder -/
theorem J_callSU {idx n d' kb' sb' : Nat} {y : MI} {a : Nat} {As st0 fs : List Value} {QY : Po} (hd : decode mi.2.1 pc = .ok (.invokespecial idx, 3)) (hY : YL y n) (hno9 : y.1.name ≠ "<init>") (hL : Cond.methodLink mi.1.cls idx y.1 ∈ AL ∧ Cond.sameMethod y.1.cls y.1.cls y.1.name y.1.desc ∈ AL ∧ Cond.superclass mi.1.cls y.1.cls ∈ AL ∧ Cond.instanceMethod y.1 ∈ AL) (hrec : w.1 a = .inr (9, fs))
    (hM : MC d' y kb' sb' (.ref a :: As) w QY) (hno : ∀ E w, ¬ QY (.inr E) w) (hn : As.length = n) (hst : st0 = As.reverse ++ .ref a :: st) (hcat : (st.map fun v => v.category).sum ≤ 8) (hdd : d' + 1 ≤ d)
    (kk : ∀ (v : Option Value) (w' : Wd), QY (.inl v) w' → J d mi (pc + 3) lc (v.toList ++ st) w' kb sb Q) : J d mi pc lc st0 w (kb + kb') (sb + sb') Q := by
  intro p l e R s m args below meth c z sa D dA Z mc ms C h1 h2 h3 h4 h5 H locs cells slots ls hR hS hl h6 h7
  obtain ⟨y1, y2, y3, y4, y5⟩ := hY
  have hroom := C.room
  have hws : ∀ w ∈ va_wsSU mi.1.cls idx y.1 (headC y :: AL), w ∈ AL := fun w h => by
    rcases List.mem_append.mp h with h | h
    · simp only [List.mem_cons, List.not_mem_nil, or_false] at h
      rcases h with rfl | rfl | rfl | rfl | rfl
      · exact hL.1
      · exact hL.2.1
      · exact hL.2.2.1
      · exact hL.2.2.2
      · exact y3
    · exact ws_in y2 w h
  obtain ⟨hSl, hat⟩ := C.hK.1 9 _ rfl
  have hrc : Rc w a RJ4 := Or.inl ⟨9, fs, TJ4, 4, rfl, hrec⟩
  refine J_runN (y := y) (d' := d') (av := .ref a :: As) C h1 h2 h3 h4 h5 hS hl h6 h7 (va_runSU (C := RJ4) (b := adr sa z a) (As := As.map (mv sa z)) hat C.1 (Met_of_vx (hM l C.2.2.2.2.2.1 z sa D dA) (no_X hno z sa D dA)) (va_cwSU n C.hts (AL_goodIn hws) (by rw [y1]) rfl rfl ⟨hno9, y4.2.2⟩ ⟨by show d' + 1 ≤ R.frames; omega, by show 8 + (y.2.2.1 + 11) + 64 * d' ≤ R.locals; omega⟩) ⟨PcM_blind _ _ _ _ _ _, hrc.cell hR C.hK C.hF hS, fun U hU hW => Pre_of hR C.hK C.hF hS C.hz U hU hW⟩ rfl (by rw [List.length_map]; exact hn) hl.1 (by rw [hst]; simp [mv]) (lv_room (by rw [mv_cats]; exact hcat)) hd ⟨by omega, by omega⟩) kk
/-- a method that the builder's class has of its own, called by the superclass's name -/
theorem J_callO {idx n d' kb' sb' : Nat} {x : MethodName} {y : MI} {b0 : ByteArray} {m0 : Nat} {r0 : Option FieldType} {a : Nat} {As st0 fs : List Value} {QY : Po} (hd : decode mi.2.1 pc = .ok (.invokevirtual idx, 3)) (hY : YL y n) (hL : Cond.methodLink mi.1.cls idx x ∈ AL ∧ Cond.sameMethod x.cls RJ5 x.name x.desc ∈ AL ∧ Cond.instanceMethod ⟨RJ5, x.name, x.desc⟩ ∈ AL ∧ Cond.selects RJ4 x y.1 ∈ AL ∧ Cond.instanceMethod y.1 ∈ AL) (h0 : Cond.code ⟨RJ5, x.name, x.desc⟩ b0 m0 r0 ∈ AL) (hdx : (parseMethodDescriptor x.desc).map (fun d => d.parameters.length) = some n) (hrec : w.1 a = .inr (9, fs))
    (hM : MC d' y kb' sb' (.ref a :: As) w QY) (hno : ∀ E w, ¬ QY (.inr E) w) (hn : As.length = n) (hst : st0 = As.reverse ++ .ref a :: st) (hcat : (st.map fun v => v.category).sum ≤ 8) (hdd : d' + 1 ≤ d)
    (kk : ∀ (v : Option Value) (w' : Wd), QY (.inl v) w' → J d mi (pc + 3) lc (v.toList ++ st) w' kb sb Q) : J d mi pc lc st0 w (kb + kb') (sb + sb') Q := by
  intro p l e R s m args below meth c z sa D dA Z mc ms C h1 h2 h3 h4 h5 H locs cells slots ls hR hS hl h6 h7
  obtain ⟨y1, y2, y3, y4, y5⟩ := hY
  have hroom := C.room
  have hws : ∀ w ∈ va_wsO mi.1.cls idx RJ4 RJ5 x y.1 (headC y :: AL), w ∈ AL := fun w h => by
    rcases List.mem_append.mp h with h | h
    · simp only [List.mem_cons, List.not_mem_nil, or_false] at h
      rcases h with rfl | rfl | rfl | rfl | rfl | rfl
      · exact hL.1
      · exact hL.2.1
      · exact hL.2.2.1
      · exact hL.2.2.2.1
      · exact hL.2.2.2.2
      · exact y3
    · exact ws_in y2 w h
  have hrc : Rc w a RJ4 := Or.inl ⟨9, fs, TJ4, 4, rfl, hrec⟩
  refine J_runN (y := y) (d' := d') (av := .ref a :: As) C h1 h2 h3 h4 h5 hS hl h6 h7 (va_runU (x := x) (owner := RJ5) (b := adr sa z a) (As := As.map (mv sa z)) C.1 (Met_of_vx (hM l C.2.2.2.2.2.1 z sa D dA) (no_X hno z sa D dA)) (va_cwO n C.hts (AL_goodIn hws) (by rw [y1]) rfl rfl h0 ⟨by decide, by decide, hdx⟩ ⟨by show d' + 1 ≤ R.frames; omega, by show 8 + (y.2.2.1 + 11) + 64 * d' ≤ R.locals; omega⟩) ⟨PcM_blind _ _ _ _ _ _, hrc.cell hR C.hK C.hF hS, fun U hU hW => Pre_of hR C.hK C.hF hS C.hz U hU hW⟩ rfl (by rw [List.length_map]; exact hn) hl.1 (by rw [hst]; simp [mv]) (lv_room (by rw [mv_cats]; exact hcat)) hd ⟨by omega, by omega⟩) kk
theorem K_putB {idx ci k : Nat} {fin : Nat} {a : Nat} {fs : List Value} (hd : decode mi.2.1 pc = .ok (.putfield idx, 3)) (hL : FL mi.1.cls idx ci k .byte fin) (hini : fin = 0 ∨ (fin = 1 ∧ mi.1.name = "<init>")) (ha : w.1 a = .inr (ci, fs)) (hlen : k < fs.length) (kk : ∀ w' : Wd, Up w w' a (.inr (ci, fs.set k (.int 0))) → J d mi (pc + 3) lc st w' kb sb Q) : J d mi pc lc (.int 0 :: .ref a :: st) w kb sb Q := J_putG hd hL hini ha hlen (fun _ _ => rfl) (fun _ _ => by show fits .byte (.int 0) = true; decide) (kk _ (Up_up _ _ _))
end JTXR

/-! constants of the old heap, texts, copies of rows, what is caught -/
section JSTAT
variable {d : Nat} {mi : MI} {pc : Nat} {lc : List (Option Value)} {st : List Value} {w : Wd} {kb sb : Nat} {Q : Po}
/-- a value that is no cell of the world -/
def sv : Value → Bool
  | .ref r => decide (r < 100)
  | _ => true
theorem sv_mv {sa : Nat → Nat} {z : Nat} {v : Value} (h : sv v = true) : mv sa z v = mv sa 0 v := by
  cases v with
  | ref r =>
    have hr : r < 100 := by simpa [sv] using h
    show Value.ref (adr sa z r) = Value.ref (adr sa 0 r)
    rw [adr_lt hr, adr_lt hr]
  | _ => rfl
theorem J_getstatic {idx : Nat} {CC n ds : String} {v : Value} (hd : decode mi.2.1 pc = .ok (.getstatic idx, 3)) (hm : (CC, n, ds, v) ∈ SFZ) (hv : sv v = true) (hL : Cond.fieldLink mi.1.cls idx CC n ds ∈ AL) (k : J d mi (pc + 3) lc (v :: st) w kb sb Q) : J d mi pc lc st w kb sb Q := by
  intro p l e R s m args below meth c z sa D dA Z mc ms C h1 h2 h3 h4 h5 H locs cells slots ls hR hS hl h6 h7
  have k1 := k p l e R s m args below meth c z sa D dA Z mc ms C h1 h2 h3 h4 h5 H locs cells slots ls hR hS hl h6 h7
  rw [List.map_cons, sv_mv hv] at k1
  exact va_gets C.1.1 C.1.2.1 (C.hF.1 _ hm) hS C.own (C.hts _ hL) (fun _ h => h) hd k1
theorem J_getstaticN {idx : Nat} {CC n ds host : String} {v : Value} (hd : decode mi.2.1 pc = .ok (.getstatic idx, 3)) (hm : (CC, n, ds, v) ∈ SFZ) (hv : sv v = true) (hL : (mi.1.cls, idx, CC, n, ds, host) ∈ SFG) (k : J d mi (pc + 3) lc (v :: st) w kb sb Q) : J d mi pc lc st w kb sb Q := by
  intro p l e R s m args below meth c z sa D dA Z mc ms C h1 h2 h3 h4 h5 H locs cells slots ls hR hS hl h6 h7
  have k1 := k p l e R s m args below meth c z sa D dA Z mc ms C h1 h2 h3 h4 h5 H locs cells slots ls hR hS hl h6 h7
  rw [List.map_cons, sv_mv hv] at k1
  exact va_getsN C.1.1 C.1.2.1 (C.hF.1 _ hm) hS C.own (va_Nw.use rfl (C.hF.2.2.2.2.2.2.2.1 _ hL)) (fun _ h => h) hd k1
theorem J_getsQ {idx : Nat} (hd : decode mi.2.1 pc = .ok (.getstatic idx, 3)) (hL : Cond.fieldLink mi.1.cls idx jPre "SIOOBE_FORMATTER" jFmt ∈ AL) (k : ∀ v : Value, v.category = 1 → J d mi (pc + 3) lc (v :: st) w kb sb Q) : J d mi pc lc st w kb sb Q := by
  intro p l e R s m args below meth c z sa D dA Z mc ms C h1 h2 h3 h4 h5 H locs cells slots ls hR hS hl h6 h7
  rcases C.hF.2.2.2.2.2.2.2.2.2.1 with h | h
  · exact va_gets C.1.1 C.1.2.1 h hS C.own (C.hts _ hL) (fun _ h => h) hd (k .null rfl p l e R s m args below meth c z sa D dA Z mc ms C h1 h2 h3 h4 h5 H locs cells slots ls hR hS hl h6 h7)
  · exact va_gets C.1.1 C.1.2.1 h hS C.own (C.hts _ hL) (fun _ h => h) hd (k (.ref 2) rfl p l e R s m args below meth c z sa D dA Z mc ms C h1 h2 h3 h4 h5 H locs cells slots ls hR hS hl h6 h7)
theorem J_sgetf {idx id : Nat} {o n ds : String} {v : Value} (hd : decode mi.2.1 pc = .ok (.getfield idx, 3)) (hm : (o, n, ds, v, id) ∈ SFF) (hv : sv v = true) (hi : id < 100) (hL : Cond.fieldLink mi.1.cls idx o n ds ∈ AL) (k : J d mi (pc + 3) lc (v :: st) w kb sb Q) : J d mi pc lc (.ref id :: st) w kb sb Q := by
  intro p l e R s m args below meth c z sa D dA Z mc ms C h1 h2 h3 h4 h5 H locs cells slots ls hR hS hl h6 h7
  have k1 := k p l e R s m args below meth c z sa D dA Z mc ms C h1 h2 h3 h4 h5 H locs cells slots ls hR hS hl h6 h7
  rw [List.map_cons, sv_mv hv] at k1
  rw [List.map_cons, show mv sa z (.ref id) = .ref (sa id) by show Value.ref (adr sa z id) = _; rw [adr_lt hi]]
  exact vk_getf C.1.1 C.1.2.1 (C.hF.2.2.2.1 _ hm) hS C.own (C.hts _ hL) (fun _ h => h) hd k1
theorem J_salen {id N : Nat} {ty : FieldType} {f : Nat → Value} {v : Int32} (hd : decode mi.2.1 pc = .ok (.arraylength, 1)) (hm : (ty, id, N, f) ∈ SFT) (hi : id < 100) (hv : Int32.ofNat N = v) (k : J d mi (pc + 1) lc (.int v :: st) w kb sb Q) : J d mi pc lc (.ref id :: st) w kb sb Q := by
  intro p l e R s m args below meth c z sa D dA Z mc ms C h1 h2 h3 h4 h5 H locs cells slots ls hR hS hl h6 h7
  rw [List.map_cons, show mv sa z (.ref id) = .ref (sa id) by show Value.ref (adr sa z id) = _; rw [adr_lt hi]]
  exact va_tlen C.1.1 C.1.2.1 (C.hF.2.1 _ hm) hS hv hd (k p l e R s m args below meth c z sa D dA Z mc ms C h1 h2 h3 h4 h5 H locs cells slots ls hR hS hl h6 h7)
theorem J_siald {id N : Nat} {f : Nat → Value} {i : Int32} {v : Value} (hd : decode mi.2.1 pc = .ok (.iaload, 1)) (hm : (.int, id, N, f) ∈ SFT) (hi : id < 100) (hin : vp_in i N) (hv : f i.toNatClampNeg = v) (hs : sv v = true) (k : J d mi (pc + 1) lc (v :: st) w kb sb Q) : J d mi pc lc (.int i :: .ref id :: st) w kb sb Q := by
  intro p l e R s m args below meth c z sa D dA Z mc ms C h1 h2 h3 h4 h5 H locs cells slots ls hR hS hl h6 h7
  have k1 := k p l e R s m args below meth c z sa D dA Z mc ms C h1 h2 h3 h4 h5 H locs cells slots ls hR hS hl h6 h7
  rw [List.map_cons, sv_mv hs] at k1
  rw [List.map_cons, List.map_cons, show mv sa z (.ref id) = .ref (sa id) by show Value.ref (adr sa z id) = _; rw [adr_lt hi]]
  exact va_ti C.1.1 C.1.2.1 (C.hF.2.1 _ hm) hS hin (by rw [← hv]) hd k1
theorem J_sbald {id N : Nat} {f : Nat → Value} {i : Int32} {v : Value} (hd : decode mi.2.1 pc = .ok (.baload, 1)) (hm : (.byte, id, N, f) ∈ SFT) (hi : id < 100) (hin : vp_in i N) (hv : f i.toNatClampNeg = v) (hs : sv v = true) (k : J d mi (pc + 1) lc (v :: st) w kb sb Q) : J d mi pc lc (.int i :: .ref id :: st) w kb sb Q := by
  intro p l e R s m args below meth c z sa D dA Z mc ms C h1 h2 h3 h4 h5 H locs cells slots ls hR hS hl h6 h7
  have k1 := k p l e R s m args below meth c z sa D dA Z mc ms C h1 h2 h3 h4 h5 H locs cells slots ls hR hS hl h6 h7
  rw [List.map_cons, sv_mv hs] at k1
  rw [List.map_cons, List.map_cons, show mv sa z (.ref id) = .ref (sa id) by show Value.ref (adr sa z id) = _; rw [adr_lt hi]]
  exact va_tb C.1.1 C.1.2.1 (C.hF.2.1 _ hm) hS hin (by rw [← hv]) hd k1
theorem J_saald {id N : Nat} {EE : String} {f : Nat → Value} {i : Int32} {v : Value} (hd : decode mi.2.1 pc = .ok (.aaload, 1)) (hm : (.object EE, id, N, f) ∈ SFT) (hi : id < 100) (hin : vp_in i N) (hv : f i.toNatClampNeg = v) (hs : sv v = true) (k : J d mi (pc + 1) lc (v :: st) w kb sb Q) : J d mi pc lc (.int i :: .ref id :: st) w kb sb Q := by
  intro p l e R s m args below meth c z sa D dA Z mc ms C h1 h2 h3 h4 h5 H locs cells slots ls hR hS hl h6 h7
  have k1 := k p l e R s m args below meth c z sa D dA Z mc ms C h1 h2 h3 h4 h5 H locs cells slots ls hR hS hl h6 h7
  rw [List.map_cons, sv_mv hs] at k1
  rw [List.map_cons, List.map_cons, show mv sa z (.ref id) = .ref (sa id) by show Value.ref (adr sa z id) = _; rw [adr_lt hi]]
  exact vb_tq C.1.1 C.1.2.1 (C.hF.2.1 _ hm) hS hin (by rw [← hv]) hd k1
theorem J_ldcS {idx id : Nat} {tx : String} (hd : decode mi.2.1 pc = .ok (.ldc idx, 2)) (hm : (mi.1.cls, idx, tx, id) ∈ SFR) (hi : id < 100) (k : J d mi (pc + 2) lc (.ref id :: st) w kb sb Q) : J d mi pc lc st w kb sb Q := by
  intro p l e R s m args below meth c z sa D dA Z mc ms C h1 h2 h3 h4 h5 H locs cells slots ls hR hS hl h6 h7
  have k1 := k p l e R s m args below meth c z sa D dA Z mc ms C h1 h2 h3 h4 h5 H locs cells slots ls hR hS hl h6 h7
  rw [List.map_cons, show mv sa z (.ref id) = .ref (sa id) by show Value.ref (adr sa z id) = _; rw [adr_lt hi]] at k1
  exact va_ldcS C.1.1 C.1.2.1 C.own (C.hF.2.2.2.2.1 _ hm) hd k1
theorem J_ldcwS {idx id : Nat} {tx : String} (hd : decode mi.2.1 pc = .ok (.ldc_w idx, 3)) (hm : (mi.1.cls, idx, tx, id) ∈ SFR) (hi : id < 100) (k : J d mi (pc + 3) lc (.ref id :: st) w kb sb Q) : J d mi pc lc st w kb sb Q := by
  intro p l e R s m args below meth c z sa D dA Z mc ms C h1 h2 h3 h4 h5 H locs cells slots ls hR hS hl h6 h7
  have k1 := k p l e R s m args below meth c z sa D dA Z mc ms C h1 h2 h3 h4 h5 H locs cells slots ls hR hS hl h6 h7
  rw [List.map_cons, show mv sa z (.ref id) = .ref (sa id) by show Value.ref (adr sa z id) = _; rw [adr_lt hi]] at k1
  intro T hT X
  obtain ⟨t, a1, b1⟩ := k1 T hT X
  exact ⟨t, X.ldcStringW C.1.1 C.own (text := tx) (a := sa id) (C.hF.2.2.2.2.1 _ hm).1 (C.hF.2.2.2.2.1 _ hm).2 (g := F0 m pc ls (st.map (mv sa z))) rfl (by rw [C.1.2.1]; exact hd) t a1, b1⟩
theorem J_ldcw {idx : Nat} {v : Int32} (hd : decode mi.2.1 pc = .ok (.ldc_w idx, 3)) (hL : Cond.constant mi.1.cls idx v ∈ AL) (k : J d mi (pc + 3) lc (.int v :: st) w kb sb Q) : J d mi pc lc st w kb sb Q := by
  intro p l e R s m args below meth c z sa D dA Z mc ms C h1 h2 h3 h4 h5 H locs cells slots ls hR hS hl h6 h7
  exact lv_ldcw C.1.1 C.1.2.1 C.own (C.hts _ hL) hd (k p l e R s m args below meth c z sa D dA Z mc ms C h1 h2 h3 h4 h5 H locs cells slots ls hR hS hl h6 h7)
theorem J_dconst0 (hd : decode mi.2.1 pc = .ok (.dconst 0, 1)) (k : J d mi (pc + 1) lc (.double (FP.i2d 0) :: st) w kb sb Q) : J d mi pc lc st w kb sb Q := by
  intro p l e R s m args below meth c z sa D dA Z mc ms C h1 h2 h3 h4 h5 H locs cells slots ls hR hS hl h6 h7
  exact lv_dconst0 C.1.1 C.1.2.1 hd (k p l e R s m args below meth c z sa D dA Z mc ms C h1 h2 h3 h4 h5 H locs cells slots ls hR hS hl h6 h7)
theorem J_fconst0 (hd : decode mi.2.1 pc = .ok (.fconst 0, 1)) (k : J d mi (pc + 1) lc (.float (FP.i2f 0) :: st) w kb sb Q) : J d mi pc lc st w kb sb Q := by
  intro p l e R s m args below meth c z sa D dA Z mc ms C h1 h2 h3 h4 h5 H locs cells slots ls hR hS hl h6 h7
  exact lv_fconst0 C.1.1 C.1.2.1 hd (k p l e R s m args below meth c z sa D dA Z mc ms C h1 h2 h3 h4 h5 H locs cells slots ls hR hS hl h6 h7)
/-- an exception is caught by the row k of the table, and put away into the local i -/
theorem JX_catch {E name : String} {x : ExceptionTableEntry} {pre suf : List ExceptionTableEntry} {i : Nat} {n : Fin 4} (hsplit : tableOf mi.2.2.2.2 = pre ++ x :: suf) (hpass : ∀ y ∈ pre, covers y pc = false ∨ (y.catchType ≠ 0 ∧ ∃ nm : String, Cond.classLink mi.1.cls y.catchType nm ∈ AL ∧ (E, nm) ∈ SFC)) (hx : covers x pc = true) (h0 : x.catchType ≠ 0) (hlink : Cond.classLink mi.1.cls x.catchType name ∈ AL) (hcast : Cond.castable E name ∈ OL)
    (hst : (decode mi.2.1 x.handlerPc = .ok (.astore_n n, 1) ∧ (n : Nat) = i ∧ ∃ j, j = 1 ∧ J d mi (x.handlerPc + j) (lc.set i none) [] w kb sb Q) ∨ (decode mi.2.1 x.handlerPc = .ok (.astore i, 2) ∧ J d mi (x.handlerPc + 2) (lc.set i none) [] w kb sb Q)) (hi : i < mi.2.2.1) (hok : okst lc i = true) : JX d mi pc lc w kb sb Q E := by
  intro p l e R s m args below meth c z sa D dA Z mc ms C h1 h2 h3 h4 h5 H locs cells slots ls rest q ce hR hS hl h6 h7 g1 g2 g3
  refine vx_catch C.own pre x suf (by rw [C.2.2.2.2.1]; exact hsplit) (fun y hy => ?_) hx h0 (C.hts _ hlink) (va_Nw.use (by rfl) (C.hF.2.2.2.2.2.2.2.2.2.2.2.2.2.1 _ hcast)) g1 g2 g3 ?_
  · rcases hpass y hy with h | ⟨ha, nm, hb, hc⟩
    · exact Or.inl h
    · exact Or.inr ⟨ha, nm, C.hts _ hb, C.hF.2.2.2.2.2.2.2.2.1 _ hc⟩
  · have key : ∀ ls' : Array Slot, lv_has ls' mi.2.2.1 ((i, .ref q) :: (lcL sa z lc).filter (fun q => !(q.1 == i) && !(q.1 + 1 == i && q.2.category == 2))) → lrel sa z mi.2.2.1 (lc.set i none) ls' := fun ls' h' => by
      refine ⟨h'.1, h'.2.1, fun j v hj => ?_⟩
      by_cases e : j = i
      · subst e
        by_cases hlt : j < lc.length
        · rw [List.getElem?_set_self hlt] at hj
          cases hj
        · rw [List.getElem?_eq_none (by rw [List.length_set]; omega)] at hj
          cases hj
      · rw [List.getElem?_set_ne (Ne.symm e)] at hj
        refine h'.2.2 (j, mv sa z v) (List.mem_cons_of_mem _ (List.mem_filter.mpr ⟨lcL_mem hj, ?_⟩))
        have e1 : (j == i) = false := by simpa using e
        simp only [e1, Bool.not_false, Bool.true_and, mv_cat]
        cases i with
        | zero => simp
        | succ n =>
          by_cases e2 : j = n
          · subst e2
            simp only [okst, hj] at hok
            simpa using hok
          · have e3 : (j + 1 == n + 1) = false := by simpa using e2
            rw [e3]; rfl
    rcases hst with ⟨hd, hn, j, rfl, k⟩ | ⟨hd, k⟩
    · exact lv_astore_n C.1.1 C.1.2.1 hd hn hl.has hi rfl (fun ls' h' => k p l e R s m args below meth c z sa D dA Z mc ms C h1 h2 h3 h4 h5 H locs cells slots ls' hR hS (key ls' h') h6 h7)
    · exact lv_astore C.1.1 C.1.2.1 hd hl.has hi rfl (fun ls' h' => k p l e R s m args below meth c z sa D dA Z mc ms C h1 h2 h3 h4 h5 H locs cells slots ls' hR hS (key ls' h') h6 h7)
/-- System.arraycopy of a row of ints onto another one -/
theorem J_copyi {idx a b n0 n1 : Nat} {f g : Nat → Int32} {sp dp n : Int32} (hd : decode mi.2.1 pc = .ok (.invokestatic idx, 3)) (hL : Cond.methodLink mi.1.cls idx arraycopyName ∈ AL ∧ Cond.native arraycopyName ∈ AL ∧ Cond.static arraycopyName ∈ AL ∧ Cond.initialized "java/lang/System" ∈ AL) (ha : w.1 a = .inl (0, n0, .inl f)) (hb : w.1 b = .inl (0, n1, .inl g)) (g1 : ¬ sp < 0) (g2 : ¬ dp < 0) (g3 : ¬ n < 0) (g4 : sp.toNatClampNeg + n.toNatClampNeg ≤ n0) (g5 : dp.toNatClampNeg + n.toNatClampNeg ≤ n1) (hcat : (st.map fun v => v.category).sum ≤ 8) (hdd : 2 ≤ d)
    (kk : J d mi (pc + 3) lc st (upW w b (.inl (0, n1, .inl (va_cpy f g sp.toNatClampNeg dp.toNatClampNeg n.toNatClampNeg)))) kb sb Q) : J d mi pc lc (.int n :: .int dp :: .ref b :: .int sp :: .ref a :: st) w kb sb Q := by
  intro p l e R s m args below meth c z sa D dA Z mc ms C h1 h2 h3 h4 h5 H locs cells slots ls hR hS hl h6 h7
  obtain ⟨a1, a2, a3⟩ := hR.at ha (inl_nd _)
  obtain ⟨b1, b2, b3⟩ := hR.at hb (inl_nd _)
  have hroom := C.room
  have hc0 : H[adr sa z a]? = some (vp_cell (dA 0) (n0, .inl f)) := a3
  have hc1 : H[adr sa z b]? = some (vp_cell (dA 0) (n1, .inl g)) := b3
  have nn : ∀ x : Int32, ¬ x < 0 → x.toInt = (x.toNatClampNeg : Int) := by
    intro x hx
    have hx0 : (0 : Int) ≤ x.toInt := by
      have := Int32.not_lt.mp hx
      simpa using Int32.le_iff_toInt_le.mp this
    show x.toInt = ((x.toInt.toNat : Nat) : Int)
    omega
  obtain ⟨-, k0, hk0, cm0, hkk0⟩ := (C.hK.2 0 _ rfl).1 n0 (fun j => .int (f j))
  obtain ⟨-, k1, hk1, cm1, hkk1⟩ := (C.hK.2 0 _ rfl).1 n1 (fun j => .int (g j))
  intro T hT X
  obtain ⟨vm', X', step⟩ := X.arraycopy C.1.1 C.own (C.hts _ hL.1) (C.hts _ hL.2.1) (C.hts _ hL.2.2.1) (C.hts _ hL.2.2.2) (src := adr sa z a) (dst := adr sa z b) (cs := vp_cell (dA 0) (n0, .inl f)) (cd := vp_cell (dA 0) (n1, .inl g)) (srcPos := sp) (destPos := dp) (n := n) (by rw [hT]; exact hc0) (by rw [hT]; exact hc1)
    (fun _ h => by cases h) (fun _ h => by cases h) (fun h => by cases h) (fun h => by cases h) hk0 hk1 hkk0 hkk1 (by rfl) g1 g2 g3
    (by rw [nn sp g1, nn n g3]; show ¬ _ > ((arrV (dA 0) n0 (fun j => .int (f j))).slots.size : Int); rw [arrV_size]; omega)
    (by rw [nn dp g2, nn n g3]; show ¬ _ > ((arrV (dA 0) n1 (fun j => .int (g j))).slots.size : Int); rw [arrV_size]; omega)
    (fun vm₁ _ i hi => by
      have e : (vp_cell (dA 0) (n0, .inl f)).slots.getD (sp.toNatClampNeg + i) .null = .int (f (sp.toNatClampNeg + i)) := by
        show (arrV (dA 0) n0 (fun j => .int (f j))).slots.getD _ _ = _
        rw [Array.getD_eq_getD_getElem?, arrV_read _ _ (by omega)]
        rfl
      refine ⟨?_, ?_⟩
      · rw [e]
        rfl
      · rw [e]
        exact trivial)
    (g := F0 m pc ls ((.int n :: .int dp :: .ref b :: .int sp :: .ref a :: st).map (mv sa z))) rfl (by rw [C.1.2.2.1]; exact hl.1) (rest := st.map (mv sa z)) rfl (by rw [C.1.2.1]; exact hd) (by omega) (by
      have := mv_cats sa z st
      have h9 : nativeFrameWords "java/lang/System" "arraycopy" 5 + 11 ≤ 100 := by decide +kernel
      rw [mv_cats]
      show 2 * 0 + _ + _ ≤ _
      omega)
  have e1 : copied (vp_cell (dA 0) (n0, .inl f)) (vp_cell (dA 0) (n1, .inl g)) sp dp n = vp_cell (dA 0) (n1, .inl (va_cpy f g sp.toNatClampNeg dp.toNatClampNeg n.toNatClampNeg)) := va_copied (fun z => .int z) (dA 0) (dA 0) f g g4
  rw [e1] at X' step
  have hl9 : adr sa z b < H.size := (Array.getElem?_eq_some_iff.mp hc1).1
  have hheap : ((T.setVm vm').setCell (adr sa z b) (vp_cell (dA 0) (n1, .inl (va_cpy f g sp.toNatClampNeg dp.toNatClampNeg n.toNatClampNeg)))).heap = H.setIfInBounds (adr sa z b) (vp_cell (dA 0) (n1, .inl (va_cpy f g sp.toNatClampNeg dp.toNatClampNeg n.toNatClampNeg))) := by rw [← hT]; rfl
  have oq : ∀ q : Nat, q ≠ adr sa z b → (H.setIfInBounds (adr sa z b) (vp_cell (dA 0) (n1, .inl (va_cpy f g sp.toNatClampNeg dp.toNatClampNeg n.toNatClampNeg))))[q]? = H[q]? := fun q hq => by simp [Array.getElem?_setIfInBounds, Ne.symm hq]
  have hzb : z ≤ adr sa z b := by rw [adr_ge b1]; omega
  have hS1 : ∀ L : List Loc, (∀ q ∈ L, q.base = adr sa z b) → va_S (Az z) s.heap (H.setIfInBounds (adr sa z b) (vp_cell (dA 0) (n1, .inl (va_cpy f g sp.toNatClampNeg dp.toNatClampNeg n.toNatClampNeg)))) (locs ++ L) := by
    intro L hL9
    refine ⟨by simp; exact hS.1, fun q q1 q2 => ?_, fun q hq => ?_⟩
    · rw [oq q (fun e => q2 (by rw [e]; exact hzb))]
      exact hS.2.1 q q1 q2
    · rcases List.mem_append.mp hq with h | h
      · exact hS.2.2 q h
      · rw [hL9 q h]
        exact hzb
  obtain ⟨t, t1, t2⟩ := kk p l e R s m args below meth c z sa D dA Z mc ms C h1 h2 h3 h4 h5 _ _ cells slots ls (hR.set hb (inl_nd _) (by simp) oq (show va_at D vwCl (adr sa z b, tr sa z dA (.inl (0, n1, .inl (va_cpy f g sp.toNatClampNeg dp.toNatClampNeg n.toNatClampNeg)))) _ from (show (H.setIfInBounds (adr sa z b) _)[adr sa z b]? = some _ by simp [Array.getElem?_setIfInBounds, hl9]; rfl))) (hS1 _ (fun q hq => by obtain ⟨y, -, hy⟩ := List.mem_map.mp hq; rw [← hy])) hl h6 h7 _ hheap X'
  exact ⟨t, step t t1, t2⟩
end JSTAT

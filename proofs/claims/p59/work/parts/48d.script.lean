/-! THE LAW: the judgement of a frame that sees the script -/
section JSCR
/-- the script: the int array at the constant 3 -/
def ScF (sN : Nat) (sF : Nat → Int32) (sa : Nat → Nat) (z : Nat) (s : State) : Prop := va_T .int (sa 3) sN (fun j => .int (sF j)) (Az z) s s.heap
def JL (sN : Nat) (sF : Nat → Int32) (d : Nat) (mi : MI) (pc : Nat) (lc : List (Option Value)) (st : List Value) (w : Wd) (kb sb : Nat) (Q : Po) : Prop :=
  ∀ (p : Program) (l : Launch) (e : Env) (R : Room) (s : State) (m : MethodId) (args : Array Value) (below : List Frame) (meth : Method) (c : Code) (z : Nat) (sa : Nat → Nat) (D : va_G) (dA : Nat → ClassId) (Z : State → Prop) (mc ms : Nat),
    Cx d mi p l R s m args meth c z sa D dA → ScF sN sF sa z s → HR mi p l e R s m args below meth c z sa D dA Q Z mc ms → HX mi p l e R s m args below meth c z sa D dA Q Z mc ms → HT mi p l e R s m args below meth c z sa D dA Q Z mc ms → mc ≤ R.cells → ms ≤ R.slots →
    ∀ (H : Heap) (locs : List Loc) (cells slots : Nat) (ls : Array Slot), Rel D dA sa z w H → va_S (Az z) s.heap H locs → lrel sa z mi.2.2.1 lc ls → cells + kb ≤ mc → slots + sb ≤ ms →
    W p l e R s m args below meth c H locs cells slots Z (F0 m pc ls (st.map (mv sa z)))
variable {sN : Nat} {sF : Nat → Int32} {d : Nat} {mi : MI} {pc : Nat} {lc : List (Option Value)} {st : List Value} {w : Wd} {kb sb : Nat} {Q : Po}
theorem JL_imul {x y : Int32} (hd : decode mi.2.1 pc = .ok (.imul, 1)) (k : JL sN sF d mi (pc + 1) lc (.int (x * y) :: st) w kb sb Q) : JL sN sF d mi pc lc (.int y :: .int x :: st) w kb sb Q := by
  intro p l e R s m args below meth c z sa D dA Z mc ms C hZ h1 h2 h3 h4 h5 H locs cells slots ls hR hS hl h6 h7
  exact lv_imul C.1.1 C.1.2.1 hd (k p l e R s m args below meth c z sa D dA Z mc ms C hZ h1 h2 h3 h4 h5 H locs cells slots ls hR hS hl h6 h7)
theorem JL_iload_n {n : Fin 4} {i : Nat} {x : Int32} (hd : decode mi.2.1 pc = .ok (.iload_n n, 1)) (hi : (n : Nat) = i) (hv : lc[i]? = some (some (.int x))) (k : JL sN sF d mi (pc + 1) lc (.int x :: st) w kb sb Q) : JL sN sF d mi pc lc st w kb sb Q := by
  intro p l e R s m args below meth c z sa D dA Z mc ms C hZ h1 h2 h3 h4 h5 H locs cells slots ls hR hS hl h6 h7
  exact lv_iload_n C.1.1 C.1.2.1 hd hi (hl.2.2 i _ hv) (k p l e R s m args below meth c z sa D dA Z mc ms C hZ h1 h2 h3 h4 h5 H locs cells slots ls hR hS hl h6 h7)
theorem JL_aload_n {n : Fin 4} {i : Nat} {x : Nat} (hd : decode mi.2.1 pc = .ok (.aload_n n, 1)) (hi : (n : Nat) = i) (hv : lc[i]? = some (some (.ref x))) (k : JL sN sF d mi (pc + 1) lc (.ref x :: st) w kb sb Q) : JL sN sF d mi pc lc st w kb sb Q := by
  intro p l e R s m args below meth c z sa D dA Z mc ms C hZ h1 h2 h3 h4 h5 H locs cells slots ls hR hS hl h6 h7
  exact lv_aload_n C.1.1 C.1.2.1 hd hi (hl.2.2 i _ hv) (k p l e R s m args below meth c z sa D dA Z mc ms C hZ h1 h2 h3 h4 h5 H locs cells slots ls hR hS hl h6 h7)
theorem JL_icmp_ge {x y : Int32} {off : Int} {tgt : Nat} (hd : decode mi.2.1 pc = .ok (.if_icmp .ge off, 3)) (ht : (pc : Int) + off = (tgt : Int)) (kt : y ≤ x → JL sN sF d mi tgt lc st w kb sb Q) (kf : ¬ y ≤ x → JL sN sF d mi (pc + 3) lc st w kb sb Q) : JL sN sF d mi pc lc (.int y :: .int x :: st) w kb sb Q := by
  intro p l e R s m args below meth c z sa D dA Z mc ms C hZ h1 h2 h3 h4 h5 H locs cells slots ls hR hS hl h6 h7
  exact lv_icmp_ge C.1.1 C.1.2.1 hd ht (fun q => kt q p l e R s m args below meth c z sa D dA Z mc ms C hZ h1 h2 h3 h4 h5 H locs cells slots ls hR hS hl h6 h7) (fun q => kf q p l e R s m args below meth c z sa D dA Z mc ms C hZ h1 h2 h3 h4 h5 H locs cells slots ls hR hS hl h6 h7)
theorem JL_goto {off : Int} {tgt : Nat} (hd : decode mi.2.1 pc = .ok (.goto off, 3)) (ht : (pc : Int) + off = (tgt : Int)) (k : JL sN sF d mi tgt lc st w kb sb Q) : JL sN sF d mi pc lc st w kb sb Q := by
  intro p l e R s m args below meth c z sa D dA Z mc ms C hZ h1 h2 h3 h4 h5 H locs cells slots ls hR hS hl h6 h7
  exact lv_goto C.1.1 C.1.2.1 hd ht (k p l e R s m args below meth c z sa D dA Z mc ms C hZ h1 h2 h3 h4 h5 H locs cells slots ls hR hS hl h6 h7)
theorem JL_ret {v : Option Value} {i : Instr} (hd : decode mi.2.1 pc = .ok (i, 1)) (hv : retI mi.2.2.2.1 i v) (hq : Q (.inl v) w) : JL sN sF d mi pc lc v.toList w kb sb Q := by
  intro p l e R s m args below meth c z sa D dA Z mc ms C hZ h1 h2 h3 h4 h5 H locs cells slots ls hR hS hl h6 h7
  exact W.widen (by omega) (by omega) (h1 v w H locs pc ls i hq hR hS hv (by rw [C.1.2.1]; exact hd))
theorem JL_ireturn {x : Int32} {ty : FieldType} (hd : decode mi.2.1 pc = .ok (.ireturn, 1)) (hr : mi.2.2.2.1 = some ty) (hn : narrow ty (.int x) = .int x) (hq : Q (.inl (some (.int x))) w) : JL sN sF d mi pc lc [.int x] w kb sb Q := JL_ret (v := some (.int x)) hd (Or.inr (Or.inl ⟨rfl, x, ty, rfl, hr, hn⟩)) hq
theorem JL_ldci {idx : Nat} {v : Int32} (hd : decode mi.2.1 pc = .ok (.ldc idx, 2)) (hL : Cond.constant mi.1.cls idx v ∈ AL) (k : JL sN sF d mi (pc + 2) lc (.int v :: st) w kb sb Q) : JL sN sF d mi pc lc st w kb sb Q := by
  intro p l e R s m args below meth c z sa D dA Z mc ms C hZ h1 h2 h3 h4 h5 H locs cells slots ls hR hS hl h6 h7
  exact lv_ldc C.1.1 C.1.2.1 C.own (C.hts _ hL) hd (k p l e R s m args below meth c z sa D dA Z mc ms C hZ h1 h2 h3 h4 h5 H locs cells slots ls hR hS hl h6 h7)
theorem JL_scl {v : Int32} (hd : decode mi.2.1 pc = .ok (.arraylength, 1)) (hv : Int32.ofNat sN = v) (k : JL sN sF d mi (pc + 1) lc (.int v :: st) w kb sb Q) : JL sN sF d mi pc lc (.ref 3 :: st) w kb sb Q := by
  intro p l e R s m args below meth c z sa D dA Z mc ms C hZ h1 h2 h3 h4 h5 H locs cells slots ls hR hS hl h6 h7
  rw [List.map_cons, show mv sa z (.ref 3) = .ref (sa 3) by show Value.ref (adr sa z 3) = _; rw [adr_lt (by decide)]]
  exact va_tlen C.1.1 C.1.2.1 hZ hS hv hd (k p l e R s m args below meth c z sa D dA Z mc ms C hZ h1 h2 h3 h4 h5 H locs cells slots ls hR hS hl h6 h7)
theorem JL_scg {i : Int32} (hd : decode mi.2.1 pc = .ok (.iaload, 1)) (hin : vp_in i sN) (k : JL sN sF d mi (pc + 1) lc (.int (sF i.toNatClampNeg) :: st) w kb sb Q) : JL sN sF d mi pc lc (.int i :: .ref 3 :: st) w kb sb Q := by
  intro p l e R s m args below meth c z sa D dA Z mc ms C hZ h1 h2 h3 h4 h5 H locs cells slots ls hR hS hl h6 h7
  have k1 := k p l e R s m args below meth c z sa D dA Z mc ms C hZ h1 h2 h3 h4 h5 H locs cells slots ls hR hS hl h6 h7
  rw [List.map_cons, List.map_cons, show mv sa z (.ref 3) = .ref (sa 3) by show Value.ref (adr sa z 3) = _; rw [adr_lt (by decide)]]
  exact va_ti C.1.1 C.1.2.1 hZ hS hin rfl hd k1
theorem cell_JL {sN : Nat} {sF : Nat → Int32} (hN : sN ≤ 260) {w : Wd} (k : Nat) (hk : k < 2 ^ 31) : JL sN sF 1 mL_cell 0 [some (.ref 3), some (.int (nI k))] [] w 0 0 (RP (fun r w' => w' = w ∧ ∃ v, r = some (.int v))) := by
  refine JL_iload_n dL_cell_0 rfl rfl ?_
  refine JL_aload_n dL_cell_1 rfl rfl ?_
  refine JL_scl (v := nI sN) dL_cell_2 rfl ?_
  refine JL_icmp_ge (tgt := 12) dL_cell_3 (by decide) (fun h => ?_) (fun h => ?_)
  · refine JL_ldci dL_cell_12 kcL_7 ?_
    refine JL_iload_n dL_cell_14 rfl rfl ?_
    refine JL_imul dL_cell_15 ?_
    exact JL_ireturn dL_cell_16 rfl rfl (RP_i ⟨rfl, _, rfl⟩)
  · have hlt : k < sN := Nat.not_le.mp (fun q => h ((nI_leI (by omega) hk).mpr q))
    refine JL_aload_n dL_cell_6 rfl rfl ?_
    refine JL_iload_n dL_cell_7 rfl rfl ?_
    refine JL_scg dL_cell_8 (vp_in_nI hlt (by omega)) ?_
    refine JL_goto (tgt := 16) dL_cell_9 (by decide) ?_
    exact JL_ireturn dL_cell_16 rfl rfl (RP_i ⟨rfl, _, rfl⟩)
theorem c_L_cell {w : Wd} {k : Nat} (hk : k < 2 ^ 31) : MC 1 mL_cell 0 0 [.ref 3, .int (nI k)] w (RP (fun r w' => w' = w ∧ ∃ v, r = some (.int v))) := by
  refine MC_of pnL rfl (fun v hv => by simp only [List.mem_cons, List.not_mem_nil, or_false] at hv; rcases hv with rfl | rfl <;> rfl) (Nat.le_of_ble_eq_true rfl) (Or.inr (fun E w h => RP_no E w h)) ?_
  show J 1 mL_cell 0 [some (.ref 3), some (.int (nI k))] [] w 0 0 _
  intro p l e R s m args below meth c z sa D dA Z mc ms C h1 h2 h3 h4 h5 H locs cells slots ls hR hS hl h6 h7
  obtain ⟨sN, sF, hN, hT, -⟩ := C.hF.2.2.2.2.2.2.2.2.2.2.2.2.2.2
  exact cell_JL hN k hk p l e R s m args below meth c z sa D dA Z mc ms C hT h1 h2 h3 h4 h5 H locs cells slots ls hR hS hl h6 h7
theorem nI_self (x : Int32) : nI x.toBitVec.toNat = x := by
  apply Int32.toBitVec_inj.mp
  show BitVec.ofNat 32 x.toBitVec.toNat = x.toBitVec
  simp
theorem ush1 (x : Int32) : ∃ k, k < 2 ^ 31 ∧ (x.toUInt32 >>> ((nI 1).toUInt32 &&& Int32.toUInt32 31)).toInt32 = nI k := by
  have h := x.toBitVec.isLt
  refine ⟨x.toBitVec.toNat / 2 ^ 1, by omega, ?_⟩
  have := pk_ushrN (n := x.toBitVec.toNat) h (nI 1) 1 (by decide +kernel)
  rw [nI_self] at this
  exact this
/-- a number below n is picked -/
theorem c_L_pick {w : Wd} {k n : Nat} (hk : k < 2 ^ 31) (h0 : 0 < n) (hn : n < 2 ^ 31) : MC 2 mL_pick 0 0 [.ref 3, .int (nI k), .int (nI n)] w (RP (fun r w' => w' = w ∧ ∃ j, j < n ∧ r = some (.int (nI j)))) := by
  refine MC_of pnL rfl (fun v hv => by simp only [List.mem_cons, List.not_mem_nil, or_false] at hv; rcases hv with rfl | rfl | rfl <;> rfl) (Nat.le_of_ble_eq_true rfl) (Or.inr (fun E w h => RP_no E w h)) ?_
  show J 2 mL_pick 0 [some (.ref 3), some (.int (nI k)), some (.int (nI n))] [] w 0 0 _
  refine J_aload_n dL_pick_0 rfl rfl ?_
  refine J_iload_n dL_pick_1 rfl rfl ?_
  refine K_sc (kb := 0) (sb := 0) dL_pick_2 YL_cell kL_8 (c_L_cell hk) rfl rfl (Nat.le_of_ble_eq_true rfl) (by decide) (fun r w1 q => ?_)
  obtain ⟨rfl, v, rfl⟩ := q
  obtain ⟨j, hj, e⟩ := ush1 v
  refine J_iconst (v := nI 1) dL_pick_5 (by decide) ?_
  refine J_iushr (v := nI j) dL_pick_6 e ?_
  refine J_iload_n dL_pick_7 rfl rfl ?_
  refine K_irem (v := nI (j % n)) dL_pick_8 (nI_ne0 h0 hn) (pk_rem hj h0 hn) ?_
  exact J_ireturn dL_pick_9 rfl rfl (RP_i ⟨rfl, _, Nat.mod_lt _ h0, rfl⟩)
end JSCR

/-! THE LAW: the judgement of a frame that sees the script -/
section JSCR
/-- the script: the int array at the constant 3 -/
def ScF (sN : Nat) (sF : Nat → Int32) (sa : Nat → Nat) (z : Nat) (s : State) : Prop := va_T .int (sa 3) sN (fun j => .int (sF j)) (Az z) s s.heap
def JL (sN : Nat) (sF : Nat → Int32) (d : Nat) (mi : MI) (pc : Nat) (lc : List (Option Value)) (st : List Value) (w : Wd) (kb sb : Nat) (Q : Po) : Prop :=
  ∀ (p : Program) (l : Launch) (e : Env) (R : Room) (s : State) (m : MethodId) (args : Array Value) (below : List Frame) (meth : Method) (c : Code) (z : Nat) (sa : Nat → Nat) (D : va_G) (dA : Nat → ClassId) (Z : State → Prop) (mc ms : Nat),
    Cx d mi p l R s m args meth c z sa D dA → ScF sN sF sa z s → HR mi p l e R s m args below meth c z sa D dA Q Z mc ms → HX mi p l e R s m args below meth c z sa D dA Q Z mc ms → HT mi p l e R s m args below meth c z sa D dA Q Z mc ms → mc ≤ R.cells → ms ≤ R.slots →
    ∀ (H : Heap) (locs : List Loc) (cells slots : Nat) (ls : Array Slot), Rel D dA sa z w H → va_S (Az z) s.heap H locs → lrel sa z mi.2.2.1 lc ls → cells + kb ≤ mc → slots + sb ≤ ms →
    W p l e R s m args below meth c H locs cells slots Z (F0 m pc ls (st.map (mv sa z)))
variable {sN : Nat} {sF : Nat → Int32} {d : Nat} {mi : MI} {pc : Nat} {lc : List (Option Value)} {st : List Value} {w : Wd} {kb sb : Nat} {Q : Po}
theorem JL_iconst {n : Int} {v : Int32} (hd : decode mi.2.1 pc = .ok (.iconst n, 1)) (hv : Int32.ofInt n = v) (k : JL sN sF d mi (pc + 1) lc (.int v :: st) w kb sb Q) : JL sN sF d mi pc lc (st) w kb sb Q := by
  intro p l e R s m args below meth c z sa D dA Z mc ms C hZ h1 h2 h3 h4 h5 H locs cells slots ls hR hS hl h6 h7
  exact lv_iconst C.1.1 C.1.2.1 hd hv (k p l e R s m args below meth c z sa D dA Z mc ms C hZ h1 h2 h3 h4 h5 H locs cells slots ls hR hS hl h6 h7)
theorem JL_bipush {n : Int} {v : Int32} (hd : decode mi.2.1 pc = .ok (.bipush n, 2)) (hv : (Int8.ofInt n).toInt32 = v) (k : JL sN sF d mi (pc + 2) lc (.int v :: st) w kb sb Q) : JL sN sF d mi pc lc (st) w kb sb Q := by
  intro p l e R s m args below meth c z sa D dA Z mc ms C hZ h1 h2 h3 h4 h5 H locs cells slots ls hR hS hl h6 h7
  exact lv_bipush C.1.1 C.1.2.1 hd hv (k p l e R s m args below meth c z sa D dA Z mc ms C hZ h1 h2 h3 h4 h5 H locs cells slots ls hR hS hl h6 h7)
theorem JL_lconst {n : Fin 2} {v : Int64} (hd : decode mi.2.1 pc = .ok (.lconst n, 1)) (hv : Int64.ofNat (n : Nat) = v) (k : JL sN sF d mi (pc + 1) lc (.long v :: st) w kb sb Q) : JL sN sF d mi pc lc (st) w kb sb Q := by
  intro p l e R s m args below meth c z sa D dA Z mc ms C hZ h1 h2 h3 h4 h5 H locs cells slots ls hR hS hl h6 h7
  exact lv_lconst C.1.1 C.1.2.1 hd hv (k p l e R s m args below meth c z sa D dA Z mc ms C hZ h1 h2 h3 h4 h5 H locs cells slots ls hR hS hl h6 h7)
theorem JL_iadd {x y : Int32} (hd : decode mi.2.1 pc = .ok (.iadd, 1)) (k : JL sN sF d mi (pc + 1) lc (.int (x + y) :: st) w kb sb Q) : JL sN sF d mi pc lc (.int y :: .int x :: st) w kb sb Q := by
  intro p l e R s m args below meth c z sa D dA Z mc ms C hZ h1 h2 h3 h4 h5 H locs cells slots ls hR hS hl h6 h7
  exact lv_iadd C.1.1 C.1.2.1 hd (k p l e R s m args below meth c z sa D dA Z mc ms C hZ h1 h2 h3 h4 h5 H locs cells slots ls hR hS hl h6 h7)
theorem JL_isub {x y : Int32} (hd : decode mi.2.1 pc = .ok (.isub, 1)) (k : JL sN sF d mi (pc + 1) lc (.int (x - y) :: st) w kb sb Q) : JL sN sF d mi pc lc (.int y :: .int x :: st) w kb sb Q := by
  intro p l e R s m args below meth c z sa D dA Z mc ms C hZ h1 h2 h3 h4 h5 H locs cells slots ls hR hS hl h6 h7
  exact lv_isub C.1.1 C.1.2.1 hd (k p l e R s m args below meth c z sa D dA Z mc ms C hZ h1 h2 h3 h4 h5 H locs cells slots ls hR hS hl h6 h7)
theorem JL_iand {x y : Int32} (hd : decode mi.2.1 pc = .ok (.iand, 1)) (k : JL sN sF d mi (pc + 1) lc (.int (x &&& y) :: st) w kb sb Q) : JL sN sF d mi pc lc (.int y :: .int x :: st) w kb sb Q := by
  intro p l e R s m args below meth c z sa D dA Z mc ms C hZ h1 h2 h3 h4 h5 H locs cells slots ls hR hS hl h6 h7
  exact lv_iand C.1.1 C.1.2.1 hd (k p l e R s m args below meth c z sa D dA Z mc ms C hZ h1 h2 h3 h4 h5 H locs cells slots ls hR hS hl h6 h7)
theorem JL_i2l {x : Int32} {v : Int64} (hd : decode mi.2.1 pc = .ok (.i2l, 1)) (hv : x.toInt64 = v) (k : JL sN sF d mi (pc + 1) lc (.long v :: st) w kb sb Q) : JL sN sF d mi pc lc (.int x :: st) w kb sb Q := by
  intro p l e R s m args below meth c z sa D dA Z mc ms C hZ h1 h2 h3 h4 h5 H locs cells slots ls hR hS hl h6 h7
  exact lv_i2l C.1.1 C.1.2.1 hd hv (k p l e R s m args below meth c z sa D dA Z mc ms C hZ h1 h2 h3 h4 h5 H locs cells slots ls hR hS hl h6 h7)
theorem JL_i2c {x v : Int32} (hd : decode mi.2.1 pc = .ok (.i2c, 1)) (hv : (x.toUInt32 % 65536).toInt32 = v) (k : JL sN sF d mi (pc + 1) lc (.int v :: st) w kb sb Q) : JL sN sF d mi pc lc (.int x :: st) w kb sb Q := by
  intro p l e R s m args below meth c z sa D dA Z mc ms C hZ h1 h2 h3 h4 h5 H locs cells slots ls hR hS hl h6 h7
  exact lv_i2c C.1.1 C.1.2.1 hd hv (k p l e R s m args below meth c z sa D dA Z mc ms C hZ h1 h2 h3 h4 h5 H locs cells slots ls hR hS hl h6 h7)
theorem JL_f2d {x : UInt32} (hd : decode mi.2.1 pc = .ok (.f2d, 1)) (hne : vf_n64 (FP.f2d x)) (k : JL sN sF d mi (pc + 1) lc (.double (FP.f2d x) :: st) w kb sb Q) : JL sN sF d mi pc lc (.float x :: st) w kb sb Q := by
  intro p l e R s m args below meth c z sa D dA Z mc ms C hZ h1 h2 h3 h4 h5 H locs cells slots ls hR hS hl h6 h7
  exact lv_f2d C.1.1 C.1.2.1 hd hne (k p l e R s m args below meth c z sa D dA Z mc ms C hZ h1 h2 h3 h4 h5 H locs cells slots ls hR hS hl h6 h7)
theorem JL_dcmp {x y : UInt64} {op : CmpOp} (hd : decode mi.2.1 pc = .ok (.dcmp op, 1)) (k : JL sN sF d mi (pc + 1) lc (.int (Op.cmpValue (FP.dcmp x y) op) :: st) w kb sb Q) : JL sN sF d mi pc lc (.double y :: .double x :: st) w kb sb Q := by
  intro p l e R s m args below meth c z sa D dA Z mc ms C hZ h1 h2 h3 h4 h5 H locs cells slots ls hR hS hl h6 h7
  exact lv_dcmp C.1.1 C.1.2.1 hd (k p l e R s m args below meth c z sa D dA Z mc ms C hZ h1 h2 h3 h4 h5 H locs cells slots ls hR hS hl h6 h7)
theorem JL_fcmp {x y : UInt32} {op : CmpOp} (hd : decode mi.2.1 pc = .ok (.fcmp op, 1)) (k : JL sN sF d mi (pc + 1) lc (.int (Op.cmpValue (FP.fcmp x y) op) :: st) w kb sb Q) : JL sN sF d mi pc lc (.float y :: .float x :: st) w kb sb Q := by
  intro p l e R s m args below meth c z sa D dA Z mc ms C hZ h1 h2 h3 h4 h5 H locs cells slots ls hR hS hl h6 h7
  exact lv_fcmp C.1.1 C.1.2.1 hd (k p l e R s m args below meth c z sa D dA Z mc ms C hZ h1 h2 h3 h4 h5 H locs cells slots ls hR hS hl h6 h7)
theorem JL_lcmp {x y : Int64} (hd : decode mi.2.1 pc = .ok (.lcmp, 1)) (k : JL sN sF d mi (pc + 1) lc (.int (lg_cmp x y) :: st) w kb sb Q) : JL sN sF d mi pc lc (.long y :: .long x :: st) w kb sb Q := by
  intro p l e R s m args below meth c z sa D dA Z mc ms C hZ h1 h2 h3 h4 h5 H locs cells slots ls hR hS hl h6 h7
  exact W.lcmp C.1.1 C.1.2.1 hd (k p l e R s m args below meth c z sa D dA Z mc ms C hZ h1 h2 h3 h4 h5 H locs cells slots ls hR hS hl h6 h7)
theorem JL_dup {va : Value} (hd : decode mi.2.1 pc = .ok (.dup, 1)) (hva : va.category = 1) (k : JL sN sF d mi (pc + 1) lc (va :: va :: st) w kb sb Q) : JL sN sF d mi pc lc (va :: st) w kb sb Q := by
  intro p l e R s m args below meth c z sa D dA Z mc ms C hZ h1 h2 h3 h4 h5 H locs cells slots ls hR hS hl h6 h7
  exact lv_dup C.1.1 C.1.2.1 hd ((mv_cat sa z va).trans hva) (k p l e R s m args below meth c z sa D dA Z mc ms C hZ h1 h2 h3 h4 h5 H locs cells slots ls hR hS hl h6 h7)
theorem JL_iload {i : Nat} {x : Int32} (hd : decode mi.2.1 pc = .ok (.iload i, 2)) (hv : lc[i]? = some (some (.int x))) (k : JL sN sF d mi (pc + 2) lc (.int x :: st) w kb sb Q) : JL sN sF d mi pc lc st w kb sb Q := by
  intro p l e R s m args below meth c z sa D dA Z mc ms C hZ h1 h2 h3 h4 h5 H locs cells slots ls hR hS hl h6 h7
  exact lv_iload C.1.1 C.1.2.1 hd (hl.2.2 i _ hv) (k p l e R s m args below meth c z sa D dA Z mc ms C hZ h1 h2 h3 h4 h5 H locs cells slots ls hR hS hl h6 h7)
theorem JL_dload {i : Nat} {x : UInt64} (hd : decode mi.2.1 pc = .ok (.dload i, 2)) (hv : lc[i]? = some (some (.double x))) (k : JL sN sF d mi (pc + 2) lc (.double x :: st) w kb sb Q) : JL sN sF d mi pc lc st w kb sb Q := by
  intro p l e R s m args below meth c z sa D dA Z mc ms C hZ h1 h2 h3 h4 h5 H locs cells slots ls hR hS hl h6 h7
  exact lv_dload C.1.1 C.1.2.1 hd (hl.2.2 i _ hv) (k p l e R s m args below meth c z sa D dA Z mc ms C hZ h1 h2 h3 h4 h5 H locs cells slots ls hR hS hl h6 h7)
theorem JL_fload {i : Nat} {x : UInt32} (hd : decode mi.2.1 pc = .ok (.fload i, 2)) (hv : lc[i]? = some (some (.float x))) (k : JL sN sF d mi (pc + 2) lc (.float x :: st) w kb sb Q) : JL sN sF d mi pc lc st w kb sb Q := by
  intro p l e R s m args below meth c z sa D dA Z mc ms C hZ h1 h2 h3 h4 h5 H locs cells slots ls hR hS hl h6 h7
  exact lv_fload C.1.1 C.1.2.1 hd (hl.2.2 i _ hv) (k p l e R s m args below meth c z sa D dA Z mc ms C hZ h1 h2 h3 h4 h5 H locs cells slots ls hR hS hl h6 h7)
theorem JL_aload_n {n : Fin 4} {i : Nat} {x : Nat} (hd : decode mi.2.1 pc = .ok (.aload_n n, 1)) (hi : (n : Nat) = i) (hv : lc[i]? = some (some (.ref x))) (k : JL sN sF d mi (pc + 1) lc (.ref x :: st) w kb sb Q) : JL sN sF d mi pc lc st w kb sb Q := by
  intro p l e R s m args below meth c z sa D dA Z mc ms C hZ h1 h2 h3 h4 h5 H locs cells slots ls hR hS hl h6 h7
  exact lv_aload_n C.1.1 C.1.2.1 hd hi (hl.2.2 i _ hv) (k p l e R s m args below meth c z sa D dA Z mc ms C hZ h1 h2 h3 h4 h5 H locs cells slots ls hR hS hl h6 h7)
theorem JL_aload {i : Nat} {x : Nat} (hd : decode mi.2.1 pc = .ok (.aload i, 2)) (hv : lc[i]? = some (some (.ref x))) (k : JL sN sF d mi (pc + 2) lc (.ref x :: st) w kb sb Q) : JL sN sF d mi pc lc st w kb sb Q := by
  intro p l e R s m args below meth c z sa D dA Z mc ms C hZ h1 h2 h3 h4 h5 H locs cells slots ls hR hS hl h6 h7
  exact lv_aload C.1.1 C.1.2.1 hd (hl.2.2 i _ hv) (k p l e R s m args below meth c z sa D dA Z mc ms C hZ h1 h2 h3 h4 h5 H locs cells slots ls hR hS hl h6 h7)
theorem JL_istore {i : Nat} {x : Int32} (hd : decode mi.2.1 pc = .ok (.istore i, 2)) (hn : i < mi.2.2.1) (hok : okst lc i = true) (k : JL sN sF d mi (pc + 2) (lc.set i (some (.int x))) st w kb sb Q) : JL sN sF d mi pc lc (.int x :: st) w kb sb Q := by
  intro p l e R s m args below meth c z sa D dA Z mc ms C hZ h1 h2 h3 h4 h5 H locs cells slots ls hR hS hl h6 h7
  exact lv_istore C.1.1 C.1.2.1 hd hl.has hn rfl (fun ls' h' => k p l e R s m args below meth c z sa D dA Z mc ms C hZ h1 h2 h3 h4 h5 H locs cells slots ls' hR hS (lrel.store (x := .int x) (fun _ h => h) hok h') h6 h7)
theorem JL_astore_n {n : Fin 4} {i : Nat} {x : Nat} (hd : decode mi.2.1 pc = .ok (.astore_n n, 1)) (hi : (n : Nat) = i) (hn : i < mi.2.2.1) (hok : okst lc i = true) (k : JL sN sF d mi (pc + 1) (lc.set i (some (.ref x))) st w kb sb Q) : JL sN sF d mi pc lc (.ref x :: st) w kb sb Q := by
  intro p l e R s m args below meth c z sa D dA Z mc ms C hZ h1 h2 h3 h4 h5 H locs cells slots ls hR hS hl h6 h7
  exact lv_astore_n C.1.1 C.1.2.1 hd hi hl.has hn rfl (fun ls' h' => k p l e R s m args below meth c z sa D dA Z mc ms C hZ h1 h2 h3 h4 h5 H locs cells slots ls' hR hS (lrel.store (x := .ref x) (fun _ h => h) hok h') h6 h7)
theorem JL_astore {i : Nat} {x : Nat} (hd : decode mi.2.1 pc = .ok (.astore i, 2)) (hn : i < mi.2.2.1) (hok : okst lc i = true) (k : JL sN sF d mi (pc + 2) (lc.set i (some (.ref x))) st w kb sb Q) : JL sN sF d mi pc lc (.ref x :: st) w kb sb Q := by
  intro p l e R s m args below meth c z sa D dA Z mc ms C hZ h1 h2 h3 h4 h5 H locs cells slots ls hR hS hl h6 h7
  exact lv_astore C.1.1 C.1.2.1 hd hl.has hn rfl (fun ls' h' => k p l e R s m args below meth c z sa D dA Z mc ms C hZ h1 h2 h3 h4 h5 H locs cells slots ls' hR hS (lrel.store (x := .ref x) (fun _ h => h) hok h') h6 h7)
theorem JL_fstore {i : Nat} {x : UInt32} (hd : decode mi.2.1 pc = .ok (.fstore i, 2)) (hn : i < mi.2.2.1) (hok : okst lc i = true) (k : JL sN sF d mi (pc + 2) (lc.set i (some (.float x))) st w kb sb Q) : JL sN sF d mi pc lc (.float x :: st) w kb sb Q := by
  intro p l e R s m args below meth c z sa D dA Z mc ms C hZ h1 h2 h3 h4 h5 H locs cells slots ls hR hS hl h6 h7
  exact lv_fstore C.1.1 C.1.2.1 hd hl.has hn rfl (fun ls' h' => k p l e R s m args below meth c z sa D dA Z mc ms C hZ h1 h2 h3 h4 h5 H locs cells slots ls' hR hS (lrel.store (x := .float x) (fun _ h => h) hok h') h6 h7)
theorem JL_dstore {i : Nat} {x : UInt64} (hd : decode mi.2.1 pc = .ok (.dstore i, 2)) (hn : i + 1 < mi.2.2.1) (hok : okst lc i = true) (k : JL sN sF d mi (pc + 2) ((lc.set i (some (.double x))).set (i + 1) none) st w kb sb Q) : JL sN sF d mi pc lc (.double x :: st) w kb sb Q := by
  intro p l e R s m args below meth c z sa D dA Z mc ms C hZ h1 h2 h3 h4 h5 H locs cells slots ls hR hS hl h6 h7
  exact lv_dstore C.1.1 C.1.2.1 hd hl.has hn rfl (fun ls' h' => k p l e R s m args below meth c z sa D dA Z mc ms C hZ h1 h2 h3 h4 h5 H locs cells slots ls' hR hS (lrel.store2 (x := .double x) (fun _ h => h) hok h') h6 h7)
theorem JL_iinc {i : Nat} {n : Int} {x v : Int32} (hd : decode mi.2.1 pc = .ok (.iinc i n, 3)) (hv : lc[i]? = some (some (.int x))) (he : x + Int32.ofInt n = v) (hn : i < mi.2.2.1) (hok : okst lc i = true) (k : JL sN sF d mi (pc + 3) (lc.set i (some (.int v))) st w kb sb Q) : JL sN sF d mi pc lc st w kb sb Q := by
  intro p l e R s m args below meth c z sa D dA Z mc ms C hZ h1 h2 h3 h4 h5 H locs cells slots ls hR hS hl h6 h7
  have hh : lv_has ls mi.2.2.1 ((i, .int x) :: lcL sa z lc) := ⟨hl.1, hl.2.1, fun q hq => by
    rcases List.mem_cons.mp hq with rfl | hq
    · exact hl.2.2 i _ hv
    · exact hl.has.2.2 q hq⟩
  exact lv_iinc C.1.1 C.1.2.1 hd hh (k := 0) rfl he hn rfl (fun ls' h' => k p l e R s m args below meth c z sa D dA Z mc ms C hZ h1 h2 h3 h4 h5 H locs cells slots ls' hR hS (lrel.store (x := .int v) (fun _ h => List.mem_cons_of_mem _ h) hok h') h6 h7)
theorem JL_if_eq {x : Int32} {off : Int} {tgt : Nat} (hd : decode mi.2.1 pc = .ok (.ifCond .eq off, 3)) (ht : (pc : Int) + off = (tgt : Int)) (kt : x = 0 → JL sN sF d mi tgt lc st w kb sb Q) (kf : ¬ x = 0 → JL sN sF d mi (pc + 3) lc st w kb sb Q) : JL sN sF d mi pc lc (.int x :: st) w kb sb Q := by
  intro p l e R s m args below meth c z sa D dA Z mc ms C hZ h1 h2 h3 h4 h5 H locs cells slots ls hR hS hl h6 h7
  exact lv_if_eq C.1.1 C.1.2.1 hd ht (fun q => kt q p l e R s m args below meth c z sa D dA Z mc ms C hZ h1 h2 h3 h4 h5 H locs cells slots ls hR hS hl h6 h7) (fun q => kf q p l e R s m args below meth c z sa D dA Z mc ms C hZ h1 h2 h3 h4 h5 H locs cells slots ls hR hS hl h6 h7)
theorem JL_if_ne {x : Int32} {off : Int} {tgt : Nat} (hd : decode mi.2.1 pc = .ok (.ifCond .ne off, 3)) (ht : (pc : Int) + off = (tgt : Int)) (kt : ¬ x = 0 → JL sN sF d mi tgt lc st w kb sb Q) (kf : x = 0 → JL sN sF d mi (pc + 3) lc st w kb sb Q) : JL sN sF d mi pc lc (.int x :: st) w kb sb Q := by
  intro p l e R s m args below meth c z sa D dA Z mc ms C hZ h1 h2 h3 h4 h5 H locs cells slots ls hR hS hl h6 h7
  exact lv_if_ne C.1.1 C.1.2.1 hd ht (fun q => kt q p l e R s m args below meth c z sa D dA Z mc ms C hZ h1 h2 h3 h4 h5 H locs cells slots ls hR hS hl h6 h7) (fun q => kf q p l e R s m args below meth c z sa D dA Z mc ms C hZ h1 h2 h3 h4 h5 H locs cells slots ls hR hS hl h6 h7)
theorem JL_icmp_eq {x y : Int32} {off : Int} {tgt : Nat} (hd : decode mi.2.1 pc = .ok (.if_icmp .eq off, 3)) (ht : (pc : Int) + off = (tgt : Int)) (kt : x = y → JL sN sF d mi tgt lc st w kb sb Q) (kf : ¬ x = y → JL sN sF d mi (pc + 3) lc st w kb sb Q) : JL sN sF d mi pc lc (.int y :: .int x :: st) w kb sb Q := by
  intro p l e R s m args below meth c z sa D dA Z mc ms C hZ h1 h2 h3 h4 h5 H locs cells slots ls hR hS hl h6 h7
  exact lv_icmp_eq C.1.1 C.1.2.1 hd ht (fun q => kt q p l e R s m args below meth c z sa D dA Z mc ms C hZ h1 h2 h3 h4 h5 H locs cells slots ls hR hS hl h6 h7) (fun q => kf q p l e R s m args below meth c z sa D dA Z mc ms C hZ h1 h2 h3 h4 h5 H locs cells slots ls hR hS hl h6 h7)
theorem JL_icmp_gt {x y : Int32} {off : Int} {tgt : Nat} (hd : decode mi.2.1 pc = .ok (.if_icmp .gt off, 3)) (ht : (pc : Int) + off = (tgt : Int)) (kt : y < x → JL sN sF d mi tgt lc st w kb sb Q) (kf : ¬ y < x → JL sN sF d mi (pc + 3) lc st w kb sb Q) : JL sN sF d mi pc lc (.int y :: .int x :: st) w kb sb Q := by
  intro p l e R s m args below meth c z sa D dA Z mc ms C hZ h1 h2 h3 h4 h5 H locs cells slots ls hR hS hl h6 h7
  exact lv_icmp_gt C.1.1 C.1.2.1 hd ht (fun q => kt q p l e R s m args below meth c z sa D dA Z mc ms C hZ h1 h2 h3 h4 h5 H locs cells slots ls hR hS hl h6 h7) (fun q => kf q p l e R s m args below meth c z sa D dA Z mc ms C hZ h1 h2 h3 h4 h5 H locs cells slots ls hR hS hl h6 h7)
theorem JL_goto {off : Int} {tgt : Nat} (hd : decode mi.2.1 pc = .ok (.goto off, 3)) (ht : (pc : Int) + off = (tgt : Int)) (k : JL sN sF d mi tgt lc st w kb sb Q) : JL sN sF d mi pc lc st w kb sb Q := by
  intro p l e R s m args below meth c z sa D dA Z mc ms C hZ h1 h2 h3 h4 h5 H locs cells slots ls hR hS hl h6 h7
  exact lv_goto C.1.1 C.1.2.1 hd ht (k p l e R s m args below meth c z sa D dA Z mc ms C hZ h1 h2 h3 h4 h5 H locs cells slots ls hR hS hl h6 h7)
theorem JL_tableIn {dflt lo hi : Int} {offs : Array Int} {len : Nat} {x : Int32} {off : Int} {tgt : Nat} (hd : decode mi.2.1 pc = .ok (.tableswitch dflt lo hi offs, len)) (g1 : ¬ x.toInt < lo) (g2 : ¬ hi < x.toInt) (ho : offs[(x.toInt - lo).toNat]? = some off) (ht : (pc : Int) + off = (tgt : Int)) (k : JL sN sF d mi tgt lc st w kb sb Q) : JL sN sF d mi pc lc (.int x :: st) w kb sb Q := by
  intro p l e R s m args below meth c z sa D dA Z mc ms C hZ h1 h2 h3 h4 h5 H locs cells slots ls hR hS hl h6 h7
  exact lv_tableIn C.1.1 C.1.2.1 hd g1 g2 ho ht (k p l e R s m args below meth c z sa D dA Z mc ms C hZ h1 h2 h3 h4 h5 H locs cells slots ls hR hS hl h6 h7)
theorem JL_tableOut {dflt lo hi : Int} {offs : Array Int} {len : Nat} {x : Int32} {tgt : Nat} (hd : decode mi.2.1 pc = .ok (.tableswitch dflt lo hi offs, len)) (g : x.toInt < lo ∨ hi < x.toInt) (ht : (pc : Int) + dflt = (tgt : Int)) (k : JL sN sF d mi tgt lc st w kb sb Q) : JL sN sF d mi pc lc (.int x :: st) w kb sb Q := by
  intro p l e R s m args below meth c z sa D dA Z mc ms C hZ h1 h2 h3 h4 h5 H locs cells slots ls hR hS hl h6 h7
  exact lv_tableOut C.1.1 C.1.2.1 hd g ht (k p l e R s m args below meth c z sa D dA Z mc ms C hZ h1 h2 h3 h4 h5 H locs cells slots ls hR hS hl h6 h7)
theorem JL_ret {v : Option Value} {i : Instr} (hd : decode mi.2.1 pc = .ok (i, 1)) (hv : retI mi.2.2.2.1 i v) (hq : Q (.inl v) w) : JL sN sF d mi pc lc v.toList w kb sb Q := by
  intro p l e R s m args below meth c z sa D dA Z mc ms C hZ h1 h2 h3 h4 h5 H locs cells slots ls hR hS hl h6 h7
  exact W.widen (by omega) (by omega) (h1 v w H locs pc ls i hq hR hS hv (by rw [C.1.2.1]; exact hd))
theorem JL_ireturn {x : Int32} {ty : FieldType} (hd : decode mi.2.1 pc = .ok (.ireturn, 1)) (hr : mi.2.2.2.1 = some ty) (hn : narrow ty (.int x) = .int x) (hq : Q (.inl (some (.int x))) w) : JL sN sF d mi pc lc [.int x] w kb sb Q := JL_ret (v := some (.int x)) hd (Or.inr (Or.inl ⟨rfl, x, ty, rfl, hr, hn⟩)) hq
theorem JL_laload {a n : Nat} {f : Nat → Int64} {i : Int32} (hd : decode mi.2.1 pc = .ok (.laload, 1)) (ha : w.1 a = .inl (2, n, .inr (.inl f))) (hi : vp_in i n) (kk : JL sN sF d mi (pc + 1) lc (.long (f i.toNatClampNeg) :: st) w kb sb Q) : JL sN sF d mi pc lc (.int i :: .ref a :: st) w kb sb Q := by
  intro p l e R s m args below meth c z sa D dA Z mc ms C hZ h1 h2 h3 h4 h5 H locs cells slots ls hR hS hl h6 h7
  obtain ⟨g1, g2, g3⟩ := hR.at ha (inl_nd _)
  exact va_lald (tys := tyL dA) C.1.1 C.1.2.1 C.hK (one_P g3) 0 2 (cA := dA 2) (n := n) (f := f) rfl rfl hi hd (kk p l e R s m args below meth c z sa D dA Z mc ms C hZ h1 h2 h3 h4 h5 H locs cells slots ls hR hS hl h6 h7)
theorem JL_daload {a n : Nat} {f : Nat → UInt64} {i : Int32} (hd : decode mi.2.1 pc = .ok (.daload, 1)) (ha : w.1 a = .inl (3, n, .inr (.inr (.inr (.inl f))))) (hi : vp_in i n) (kk : JL sN sF d mi (pc + 1) lc (.double (f i.toNatClampNeg) :: st) w kb sb Q) : JL sN sF d mi pc lc (.int i :: .ref a :: st) w kb sb Q := by
  intro p l e R s m args below meth c z sa D dA Z mc ms C hZ h1 h2 h3 h4 h5 H locs cells slots ls hR hS hl h6 h7
  obtain ⟨g1, g2, g3⟩ := hR.at ha (inl_nd _)
  exact va_dald (tys := tyL dA) C.1.1 C.1.2.1 C.hK (one_P g3) 0 3 (cA := dA 3) (n := n) (f := f) rfl rfl hi hd (kk p l e R s m args below meth c z sa D dA Z mc ms C hZ h1 h2 h3 h4 h5 H locs cells slots ls hR hS hl h6 h7)
theorem JL_new {idx ci N : Nat} {fs : List Value} (hd : decode mi.2.1 pc = .ok (.new idx, 3)) (hL : NL mi.1.cls idx ci N fs) (hf : w.2.2 = true) (kk : JL sN sF d mi (pc + 3) lc (.ref (100 + w.2.1) :: st) (nwW w (.inr (ci, fs))) kb sb Q) : JL sN sF d mi pc lc st w (kb + 1) (sb + N) Q := by
  intro p l e R s m args below meth c z sa D dA Z mc ms C hZ h1 h2 h3 h4 h5 H locs cells slots ls hR hS hl h6 h7
  obtain ⟨CC, T, tys, hc, hws, htys, w1, w2, w3, hfs⟩ := hL
  have hKn := C.hK.1 ci _ hc
  refine W.newcK C.1.1 C.1.2.1 C.own (C.hts _ w1) (C.hts _ w2) (C.hts _ w3) rfl hd (by omega) (by omega) hKn.2.1 rfl fun H1 kC hkC e1 z1 o1 => ?_
  have hadr : adr sa z (100 + w.2.1) = H.size := by rw [adr_ge (by omega), hR.1 hf]; omega
  have hs : va_S (Az z) s.heap H1 locs := ⟨Nat.le_trans hS.1 (by omega), fun x a1 a2 => (o1 x (Nat.lt_of_lt_of_le a1 hS.1)).trans (hS.2.1 x a1 a2), hS.2.2⟩
  have hmap : fs.map (mv sa z) = fs := by
    rw [hfs, List.map_map]
    exact List.map_congr_left fun j _ => mv_defv _
  have k := kk p l e R s m args below meth c z sa D dA Z mc ms C hZ h1 h2 h3 h4 h5 H1 locs (cells + 1) (slots + N) ls (hR.new hf z1 o1 (x := .inr (ci, fs)) ⟨_, hc, (u_born tys C.hts hws hKn hkC e1 htys).to (fun j hj => ?_)⟩) hs hl (by omega) (by omega)
  · show W p l e R s m args below meth c H1 locs (cells + 1) (slots + N) Z (F0 m (pc + 3) ls (.ref H.size :: st.map (mv sa z)))
    rw [← hadr]
    exact k
  · show _ = vp_V (fs.map (mv sa z)) j
    rw [hmap, hfs]
    simp [vp_V, List.getD_eq_getElem?_getD, hj]
theorem JL_newa_long {x : Int32} {N : Nat} (hd : decode mi.2.1 pc = .ok (.newarray .long, 2)) (hw : Cond.arrayClass (newarray.typeOf .long) ∈ AL) (hx : ¬ x < 0) (hN : x.toNatClampNeg = N) (hB : N * 8 ≤ 536870912) (hf : w.2.2 = true) (kk : JL sN sF d mi (pc + 2) lc (.ref (100 + w.2.1) :: st) (nwW w (.inl (2, N, .inr (.inl fun _ => 0)))) kb sb Q) : JL sN sF d mi pc lc (.int x :: st) w (kb + 1) (sb + N) Q := by
  intro p l e R s m args below meth c z sa D dA Z mc ms C hZ h1 h2 h3 h4 h5 H locs cells slots ls hR hS hl h6 h7
  refine va_newaK (atype := .long) C.1.1 C.1.2.1 (C.hts _ hw) rfl hd rfl hx hN (by show N * 8 ≤ _; omega) (by omega) (by omega) rfl fun H1 cA e1 z1 o1 hA hcA => ?_
  have hcA' : cA = dA 2 := Option.some.inj (hcA.symm.trans (C.hK.2 2 _ rfl).2)
  subst hcA'
  have hadr : adr sa z (100 + w.2.1) = H.size := by rw [adr_ge (by omega), hR.1 hf]; omega
  have hs : va_S (Az z) s.heap H1 locs := ⟨Nat.le_trans hS.1 (by omega), fun x a1 a2 => (o1 x (Nat.lt_of_lt_of_le a1 hS.1)).trans (hS.2.1 x a1 a2), hS.2.2⟩
  have k := kk p l e R s m args below meth c z sa D dA Z mc ms C hZ h1 h2 h3 h4 h5 H1 locs (cells + 1) (slots + N) ls (hR.new hf z1 o1 (x := .inl (2, N, .inr (.inl fun _ => 0))) e1) hs hl (by omega) (by omega)
  show W p l e R s m args below meth c H1 locs (cells + 1) (slots + N) Z (F0 m (pc + 2) ls (.ref H.size :: st.map (mv sa z)))
  rw [← hadr]
  exact k
theorem JL_newa_double {x : Int32} {N : Nat} (hd : decode mi.2.1 pc = .ok (.newarray .double, 2)) (hw : Cond.arrayClass (newarray.typeOf .double) ∈ AL) (hx : ¬ x < 0) (hN : x.toNatClampNeg = N) (hB : N * 8 ≤ 536870912) (hf : w.2.2 = true) (kk : JL sN sF d mi (pc + 2) lc (.ref (100 + w.2.1) :: st) (nwW w (.inl (3, N, .inr (.inr (.inr (.inl fun _ => 0)))))) kb sb Q) : JL sN sF d mi pc lc (.int x :: st) w (kb + 1) (sb + N) Q := by
  intro p l e R s m args below meth c z sa D dA Z mc ms C hZ h1 h2 h3 h4 h5 H locs cells slots ls hR hS hl h6 h7
  refine va_newaK (atype := .double) C.1.1 C.1.2.1 (C.hts _ hw) rfl hd rfl hx hN (by show N * 8 ≤ _; omega) (by omega) (by omega) rfl fun H1 cA e1 z1 o1 hA hcA => ?_
  have hcA' : cA = dA 3 := Option.some.inj (hcA.symm.trans (C.hK.2 3 _ rfl).2)
  subst hcA'
  have hadr : adr sa z (100 + w.2.1) = H.size := by rw [adr_ge (by omega), hR.1 hf]; omega
  have hs : va_S (Az z) s.heap H1 locs := ⟨Nat.le_trans hS.1 (by omega), fun x a1 a2 => (o1 x (Nat.lt_of_lt_of_le a1 hS.1)).trans (hS.2.1 x a1 a2), hS.2.2⟩
  have k := kk p l e R s m args below meth c z sa D dA Z mc ms C hZ h1 h2 h3 h4 h5 H1 locs (cells + 1) (slots + N) ls (hR.new hf z1 o1 (x := .inl (3, N, .inr (.inr (.inr (.inl fun _ => 0))))) e1) hs hl (by omega) (by omega)
  show W p l e R s m args below meth c H1 locs (cells + 1) (slots + N) Z (F0 m (pc + 2) ls (.ref H.size :: st.map (mv sa z)))
  rw [← hadr]
  exact k
theorem JL_run {d' kb' sb' : Nat} {st0 av : List Value} {y : MI} {QY : Po} {p : Program} {l : Launch} {e : Env} {R : Room} {s : State} {m : MethodId} {args : Array Value} {below : List Frame} {meth : Method} {c : Code} {z : Nat} {sa : Nat → Nat} {D : va_G} {dA : Nat → ClassId} {Z : State → Prop} {mc ms : Nat} (C : Cx d mi p l R s m args meth c z sa D dA) (hZ : ScF sN sF sa z s) (h1 : HR mi p l e R s m args below meth c z sa D dA Q Z mc ms) (h2 : HX mi p l e R s m args below meth c z sa D dA Q Z mc ms) (h3 : HT mi p l e R s m args below meth c z sa D dA Q Z mc ms) (h4 : mc ≤ R.cells) (h5 : ms ≤ R.slots)
    {H : Heap} {locs : List Loc} {cells slots : Nat} {ls : Array Slot} (hS : va_S (Az z) s.heap H locs) (hl : lrel sa z mi.2.2.1 lc ls) (h6 : cells + (kb + kb') ≤ mc) (h7 : slots + (sb + sb') ≤ ms)
    (hr : vx_Run p l e R s m args below meth c H locs cells slots kb' sb' (F0 m pc ls st0) (st.map (mv sa z)) (QcM QY z sa D dA (av.map (mv sa z)).toArray) (XcM QY z sa D dA) (Az z))
    (kk : ∀ (v : Option Value) (w' : Wd), QY (.inl v) w' → JL sN sF d mi (pc + 3) lc (v.toList ++ st) w' kb sb Q) (kx : ∀ (E : String) (w' : Wd), QY (.inr E) w' → JX d mi pc lc w' kb sb Q E) : W p l e R s m args below meth c H locs cells slots Z (F0 m pc ls st0) := by
  intro T hT X
  rcases hr T hT X with ⟨v, st₀, t, T', L, h0, X', hL, e1, e2, ⟨v0, w', hv, hq, hR', hF⟩, stp⟩ | ⟨q, st₀, t, T', L, E, ce, h0, X', hL, e1, e2, ⟨w', hq, hR', hF⟩, hce, hcv, hcl, stp⟩
  · cases hv
    obtain ⟨g1, g2, g3⟩ := vx_keep (A1 := Az z) h0 e1 hS (fun _ _ h => h) (fun _ h => h) hL hF
    have k := kk v0 w' hq p l e R s m args below meth c z sa D dA Z mc ms C hZ h1 h2 h3 h4 h5 T'.heap (locs ++ L) (cells + kb') (slots + sb') ls (by rw [e1]; exact hR') g3 hl (by omega) (by omega)
    rw [← opt_map] at k
    obtain ⟨t2, a1, b1⟩ := k T' rfl X'
    exact ⟨t2, stp t2 a1, b1⟩
  · obtain ⟨g1, g2, g3⟩ := vx_keep (A1 := Az z) h0 e1 hS (fun _ _ h => h) (fun _ h => h) hL hF
    obtain ⟨t2, a1, b1⟩ := kx E w' hq p l e R s m args below meth c z sa D dA Z mc ms C h1 h2 h3 h4 h5 T'.heap (locs ++ L) (cells + kb') (slots + sb') ls (st.map (mv sa z)) q ce (by rw [e1]; exact hR') g3 hl (by omega) (by omega) (by rw [e1]; exact hce) hcv hcl T' rfl X'
    exact ⟨t2, stp.trans a1, b1⟩
theorem JL_runN {d' kb' sb' : Nat} {st0 av : List Value} {y : MI} {QY : Po} {p : Program} {l : Launch} {e : Env} {R : Room} {s : State} {m : MethodId} {args : Array Value} {below : List Frame} {meth : Method} {c : Code} {z : Nat} {sa : Nat → Nat} {D : va_G} {dA : Nat → ClassId} {Z : State → Prop} {mc ms : Nat} (C : Cx d mi p l R s m args meth c z sa D dA) (hZ : ScF sN sF sa z s) (h1 : HR mi p l e R s m args below meth c z sa D dA Q Z mc ms) (h2 : HX mi p l e R s m args below meth c z sa D dA Q Z mc ms) (h3 : HT mi p l e R s m args below meth c z sa D dA Q Z mc ms) (h4 : mc ≤ R.cells) (h5 : ms ≤ R.slots)
    {H : Heap} {locs : List Loc} {cells slots : Nat} {ls : Array Slot} (hS : va_S (Az z) s.heap H locs) (hl : lrel sa z mi.2.2.1 lc ls) (h6 : cells + (kb + kb') ≤ mc) (h7 : slots + (sb + sb') ≤ ms)
    (hr : va_Run p l e R s m args below meth c H locs cells slots kb' sb' (F0 m pc ls st0) (st.map (mv sa z)) (QcM QY z sa D dA (av.map (mv sa z)).toArray) (Az z))
    (kk : ∀ (v : Option Value) (w' : Wd), QY (.inl v) w' → JL sN sF d mi (pc + 3) lc (v.toList ++ st) w' kb sb Q) : W p l e R s m args below meth c H locs cells slots Z (F0 m pc ls st0) := by
  intro T hT X
  obtain ⟨v, st₀, t, T', L, h0, X', hL, e1, e2, ⟨v0, w', hv, hq, hR', hF⟩, stp⟩ := hr T hT X
  cases hv
  obtain ⟨g1, g2, g3⟩ := vx_keep (A1 := Az z) h0 e1 hS (fun _ _ h => h) (fun _ h => h) hL hF
  have k := kk v0 w' hq p l e R s m args below meth c z sa D dA Z mc ms C hZ h1 h2 h3 h4 h5 T'.heap (locs ++ L) (cells + kb') (slots + sb') ls (by rw [e1]; exact hR') g3 hl (by omega) (by omega)
  rw [← opt_map] at k
  obtain ⟨t2, a1, b1⟩ := k T' rfl X'
  exact ⟨t2, stp t2 a1, b1⟩
theorem JL_callV {idx n d' kb' sb' : Nat} {y : MI} {a : Nat} {As st0 : List Value} {QY : Po} (hd : decode mi.2.1 pc = .ok (.invokevirtual idx, 3)) (hY : YL y n) (hL : Cond.methodLink mi.1.cls idx y.1 ∈ AL ∧ Cond.instanceMethod y.1 ∈ AL ∧ Cond.selects y.1.cls y.1 y.1 ∈ AL) (hrec : Rc w a y.1.cls)
    (hM : MC d' y kb' sb' (.ref a :: As) w QY) (hn : As.length = n) (hst : st0 = As.reverse ++ .ref a :: st) (hcat : (st.map fun v => v.category).sum ≤ 8) (hdd : d' + 1 ≤ d)
    (kk : ∀ (v : Option Value) (w' : Wd), QY (.inl v) w' → JL sN sF d mi (pc + 3) lc (v.toList ++ st) w' kb sb Q) (kx : ∀ (E : String) (w' : Wd), QY (.inr E) w' → JX d mi pc lc w' kb sb Q E) : JL sN sF d mi pc lc st0 w (kb + kb') (sb + sb') Q := by
  intro p l e R s m args below meth c z sa D dA Z mc ms C hZ h1 h2 h3 h4 h5 H locs cells slots ls hR hS hl h6 h7
  obtain ⟨y1, y2, y3, y4, y5⟩ := hY
  have hroom := C.room
  have hws : ∀ w ∈ wsV mi.1.cls idx y.1.cls y.1 (headC y :: AL), w ∈ AL := fun w h => by
    rcases List.mem_append.mp h with h | h
    · simp only [List.mem_cons, List.not_mem_nil, or_false] at h
      rcases h with rfl | rfl | rfl | rfl
      · exact hL.1
      · exact hL.2.1
      · exact hL.2.2
      · exact y3
    · exact ws_in y2 w h
  refine JL_run (y := y) (d' := d') (av := .ref a :: As) C hZ h1 h2 h3 h4 h5 hS hl h6 h7 (vx_runV (As := As.map (mv sa z)) (b := adr sa z a) C.1 (hM l C.2.2.2.2.2.1 z sa D dA) (cwV n C.hts (AL_goodIn hws) (by rw [y1]) rfl rfl ⟨rfl, y4.1, y4.2.1, y4.2.2⟩ ⟨by show d' + 1 ≤ R.frames; omega, by show 8 + (y.2.2.1 + 11) + 64 * d' ≤ R.locals; omega⟩) ⟨PcM_blind _ _ _ _ _ _, hrec.cell hR C.hK C.hF hS, fun U hU hW => Pre_of hR C.hK C.hF hS C.hz U hU hW⟩ rfl (by rw [List.length_map]; exact hn) hl.1 (by rw [hst]; simp [mv]) (lv_room (by rw [mv_cats]; exact hcat)) hd ⟨by omega, by omega⟩) kk kx
theorem JL_callSH {idx n d' kb' sb' : Nat} {y : MI} {As st0 : List Value} {QY : Po} (hd : decode mi.2.1 pc = .ok (.invokestatic idx, 3)) (hh : headC y = .codeWith y.1 y.2.1 y.2.2.1 y.2.2.2.1 y.2.2.2.2) (hY : headC y ∈ AL ∧ Cond.initialized y.1.cls ∈ AL ∧ (y.1.cls ≠ "java/lang/invoke/MethodHandle" ∧ y.1.cls ≠ "java/lang/invoke/VarHandle" ∧ (parseMethodDescriptor y.1.desc).map (fun d => d.parameters.length) = some n) ∧ y.2.2.1 ≤ 40) (hL : Cond.methodLink mi.1.cls idx y.1 ∈ AL ∧ Cond.static y.1 ∈ AL)
    (hM : MC d' y kb' sb' As w QY) (hn : As.length = n) (hst : st0 = As.reverse ++ st) (hcat : (st.map fun v => v.category).sum ≤ 8) (hdd : d' + 1 ≤ d)
    (kk : ∀ (v : Option Value) (w' : Wd), QY (.inl v) w' → JL sN sF d mi (pc + 3) lc (v.toList ++ st) w' kb sb Q) (kx : ∀ (E : String) (w' : Wd), QY (.inr E) w' → JX d mi pc lc w' kb sb Q E) : JL sN sF d mi pc lc st0 w (kb + kb') (sb + sb') Q := by
  intro p l e R s m args below meth c z sa D dA Z mc ms C hZ h1 h2 h3 h4 h5 H locs cells slots ls hR hS hl h6 h7
  obtain ⟨y2, y3, y4, y5⟩ := hY
  have hroom := C.room
  have hws : ∀ w ∈ va_wsS mi.1.cls idx y.1 (headC y :: AL), w ∈ AL := fun w h => by
    rcases List.mem_append.mp h with h | h
    · simp only [List.mem_cons, List.not_mem_nil, or_false] at h
      rcases h with rfl | rfl | rfl
      · exact hL.1
      · exact hL.2
      · exact y3
    · exact ws_in y2 w h
  refine JL_run (y := y) (d' := d') (av := As) C hZ h1 h2 h3 h4 h5 hS hl h6 h7 (vx_runSX (hh := y.2.2.2.2) (As := As.map (mv sa z)) C.1 (hM l C.2.2.2.2.2.1 z sa D dA) (vx_cwSW n C.hts (AL_goodIn hws) (by rw [hh]) rfl rfl ⟨y4.1, y4.2.1, y4.2.2⟩ ⟨by show d' + 1 ≤ R.frames; omega, by show 8 + (y.2.2.1 + 11) + 64 * d' ≤ R.locals; omega⟩) ⟨PcM_blind _ _ _ _ _ _, fun U hU hW => Pre_of hR C.hK C.hF hS C.hz U hU hW⟩ rfl (by rw [List.length_map]; exact hn) hl.1 (by rw [hst]; simp) (lv_room (by rw [mv_cats]; exact hcat)) hd ⟨by omega, by omega⟩) kk kx
theorem JL_callI {idx n d' kb' sb' : Nat} {y : MI} {a : Nat} {As st0 : List Value} {QY : Po} (hd : decode mi.2.1 pc = .ok (.invokespecial idx, 3)) (hY : YL y n) (hr : y.2.2.2.1 = none) (hy : y.1.name = "<init>") (hL : Cond.methodLink mi.1.cls idx y.1 ∈ AL ∧ Cond.instanceMethod y.1 ∈ AL)
    (hM : MC d' y kb' sb' (.ref a :: As) w QY) (hno : ∀ E w, ¬ QY (.inr E) w) (hn : As.length = n) (hst : st0 = As.reverse ++ .ref a :: st) (hcat : (st.map fun v => v.category).sum ≤ 8) (hdd : d' + 1 ≤ d)
    (kk : ∀ (v : Option Value) (w' : Wd), QY (.inl v) w' → JL sN sF d mi (pc + 3) lc (v.toList ++ st) w' kb sb Q) : JL sN sF d mi pc lc st0 w (kb + kb') (sb + sb') Q := by
  intro p l e R s m args below meth c z sa D dA Z mc ms C hZ h1 h2 h3 h4 h5 H locs cells slots ls hR hS hl h6 h7
  obtain ⟨y1, y2, y3, y4, y5⟩ := hY
  have hroom := C.room
  refine JL_runN (y := y) (d' := d') (av := .ref a :: As) C hZ h1 h2 h3 h4 h5 hS hl h6 h7 (va_runI (b := adr sa z a) (As := As.map (mv sa z)) C.1 (Met_of_vx (hM l C.2.2.2.2.2.1 z sa D dA) (no_X hno z sa D dA)) (cwI n C.hts (AL_goodIn (ws_in y2)) (by rw [y1, hr]) rfl rfl (C.hts _ y3) (C.hts _ hL.1) (C.hts _ hL.2) hy ⟨y4.1, y4.2.1, y4.2.2⟩ ⟨by show d' + 1 ≤ R.frames; omega, by show 8 + (y.2.2.1 + 11) + 64 * d' ≤ R.locals; omega⟩) ⟨PcM_blind _ _ _ _ _ _, fun U hU hW => Pre_of hR C.hK C.hF hS C.hz U hU hW⟩ rfl (by rw [List.length_map]; exact hn) hl.1 (by rw [hst]; simp [mv]) (lv_room (by rw [mv_cats]; exact hcat)) hd ⟨by omega, by omega⟩) kk
theorem KL_laload {a n : Nat} {f : Nat → Int64} {i : Int32} {v : Int64} (hd : decode mi.2.1 pc = .ok (.laload, 1)) (ha : w.1 a = .inl (2, n, .inr (.inl f))) (hi : vp_in i n) (hv : f i.toNatClampNeg = v) (kk : JL sN sF d mi (pc + 1) lc (.long v :: st) w kb sb Q) : JL sN sF d mi pc lc (.int i :: .ref a :: st) w kb sb Q := JL_laload hd ha hi (hv ▸ kk)
theorem KL_daload {a n : Nat} {f : Nat → UInt64} {i : Int32} {v : UInt64} (hd : decode mi.2.1 pc = .ok (.daload, 1)) (ha : w.1 a = .inl (3, n, .inr (.inr (.inr (.inl f))))) (hi : vp_in i n) (hv : f i.toNatClampNeg = v) (kk : JL sN sF d mi (pc + 1) lc (.double v :: st) w kb sb Q) : JL sN sF d mi pc lc (.int i :: .ref a :: st) w kb sb Q := JL_daload hd ha hi (hv ▸ kk)
theorem KL_lald {a n k : Nat} {f : Nat → Int64} {v : Int64} (hd : decode mi.2.1 pc = .ok (.laload, 1)) (ha : w.1 a = .inl (2, n, .inr (.inl f))) (hk : k < n) (hn : n < 2 ^ 31) (hv : f k = v) (kk : JL sN sF d mi (pc + 1) lc (.long v :: st) w kb sb Q) : JL sN sF d mi pc lc (.int (nI k) :: .ref a :: st) w kb sb Q := KL_laload hd ha (vp_in_nI hk hn) (by rw [nI_clamp (Nat.lt_trans hk hn)]; exact hv) kk
theorem KL_dald {a n k : Nat} {f : Nat → UInt64} {v : UInt64} (hd : decode mi.2.1 pc = .ok (.daload, 1)) (ha : w.1 a = .inl (3, n, .inr (.inr (.inr (.inl f))))) (hk : k < n) (hn : n < 2 ^ 31) (hv : f k = v) (kk : JL sN sF d mi (pc + 1) lc (.double v :: st) w kb sb Q) : JL sN sF d mi pc lc (.int (nI k) :: .ref a :: st) w kb sb Q := KL_daload hd ha (vp_in_nI hk hn) (by rw [nI_clamp (Nat.lt_trans hk hn)]; exact hv) kk
theorem KL_new {idx ci N : Nat} {fs : List Value} (hd : decode mi.2.1 pc = .ok (.new idx, 3)) (hL : NL mi.1.cls idx ci N fs) (hf : w.2.2 = true) (kk : ∀ w' : Wd, NwU w w' (.inr (ci, fs)) → JL sN sF d mi (pc + 3) lc (.ref (100 + w.2.1) :: st) w' kb sb Q) : JL sN sF d mi pc lc st w (kb + 1) (sb + N) Q := JL_new hd hL hf (kk _ (NwU_nw _ _))
theorem JL_scl {v : Int32} (hd : decode mi.2.1 pc = .ok (.arraylength, 1)) (hv : Int32.ofNat sN = v) (k : JL sN sF d mi (pc + 1) lc (.int v :: st) w kb sb Q) : JL sN sF d mi pc lc (.ref 3 :: st) w kb sb Q := by
  intro p l e R s m args below meth c z sa D dA Z mc ms C hZ h1 h2 h3 h4 h5 H locs cells slots ls hR hS hl h6 h7
  rw [List.map_cons, show mv sa z (.ref 3) = .ref (sa 3) by show Value.ref (adr sa z 3) = _; rw [adr_lt (by decide)]]
  exact va_tlen C.1.1 C.1.2.1 hZ hS hv hd (k p l e R s m args below meth c z sa D dA Z mc ms C hZ h1 h2 h3 h4 h5 H locs cells slots ls hR hS hl h6 h7)
theorem JL_scg {i : Int32} (hd : decode mi.2.1 pc = .ok (.iaload, 1)) (hin : vp_in i sN) (k : JL sN sF d mi (pc + 1) lc (.int (sF i.toNatClampNeg) :: st) w kb sb Q) : JL sN sF d mi pc lc (.int i :: .ref 3 :: st) w kb sb Q := by
  intro p l e R s m args below meth c z sa D dA Z mc ms C hZ h1 h2 h3 h4 h5 H locs cells slots ls hR hS hl h6 h7
  have k1 := k p l e R s m args below meth c z sa D dA Z mc ms C hZ h1 h2 h3 h4 h5 H locs cells slots ls hR hS hl h6 h7
  rw [List.map_cons, List.map_cons, show mv sa z (.ref 3) = .ref (sa 3) by show Value.ref (adr sa z 3) = _; rw [adr_lt (by decide)]]
  exact va_ti C.1.1 C.1.2.1 hZ hS hin rfl hd k1
end JSCR

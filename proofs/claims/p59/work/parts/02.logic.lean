/-! THE LOGIC. A judgement J over a world of cells that bear numbers (refs below 100 are the old heap's constants, the others are the cells that the run makes, in the order of their making); it hides the machine. One rule an instruction; MC is a method's contract. -/
section JLOGIC
/-- a private method of the class that a StringBuilder is out of: whoever calls it on one, it is itself that runs -/
def lw_sub : List Cond := [yJ5_appendNull_278bc, yJ5_ensureCapacityInternal_d00df, yJ5_newCapacity_0f7a4, yJ5_putStringAt_47b60, yJ5_inflateIfNeededFor_a7421, yJ5_inflate_da8c8].map fun y => Cond.selects RJ4 y y
def AL : List Cond := lw_sub ++ lw_tbl.filter goodWord
theorem AL_in {w : Cond} (h : w ∈ lw_tbl) (g : goodWord w = true) : w ∈ AL := List.mem_append_right _ (List.mem_filter.mpr ⟨h, g⟩)
theorem AL_sub {w : Cond} (h : w ∈ lw_sub) : w ∈ AL := List.mem_append_left _ h
theorem AL_ok {args : Array Value} {s : State} (h : ∀ w ∈ lw_tbl, w.before args s = true) (h2 : ∀ w ∈ lw_sub, w.before args s = true) : ∀ w ∈ AL, w.before args s = true := fun w hw => (List.mem_append.mp hw).elim (h2 w) (fun h9 => h w (List.mem_filter.mp h9).1)
theorem AL_good {w : Cond} (h : w ∈ AL) : goodWord w = true := (List.mem_append.mp h).elim (fun h => by
  obtain ⟨y, -, rfl⟩ := List.mem_map.mp h
  rfl) (fun h => (List.mem_filter.mp h).2)
theorem AL_goodIn {ws : List Cond} (h : ∀ w ∈ ws, w ∈ AL) : GoodIn AL ws := fun w hw => ⟨h w hw, good_of_word (AL_good (h w hw))⟩
abbrev Ce : Type := (Nat × vp_A) ⊕ (Nat × List Value)
abbrev Wd : Type := (Nat → Ce) × Nat × Bool
abbrev MI : Type := MethodName × ByteArray × Nat × Option FieldType × List (Nat × Nat × Nat × Nat)
abbrev Po : Type := (Option Value ⊕ String) → Wd → Prop
def adr (sa : Nat → Nat) (z r : Nat) : Nat := if r < 100 then sa r else z + (r - 100)
def mv (sa : Nat → Nat) (z : Nat) : Value → Value
  | .ref r => .ref (adr sa z r)
  | .int x => .int x
  | .long x => .long x
  | .float x => .float x
  | .double x => .double x
  | .null => .null
  | .retAddr x => .retAddr x
theorem mv_cat (sa : Nat → Nat) (z : Nat) (v : Value) : (mv sa z v).category = v.category := by cases v <;> rfl
theorem mv_cats (sa : Nat → Nat) (z : Nat) (st : List Value) : ((st.map (mv sa z)).map fun v => v.category).sum = (st.map fun v => v.category).sum := by
  rw [List.map_map]
  congr 1
  apply List.map_congr_left
  intro v _
  exact mv_cat sa z v
def trA (sa : Nat → Nat) (z : Nat) : vp_A → vp_A
  | (n, .inl f) => (n, .inl f)
  | (n, .inr (.inl f)) => (n, .inr (.inl f))
  | (n, .inr (.inr (.inl f))) => (n, .inr (.inr (.inl f)))
  | (n, .inr (.inr (.inr (.inl f)))) => (n, .inr (.inr (.inr (.inl f))))
  | (n, .inr (.inr (.inr (.inr f)))) => (n, .inr (.inr (.inr (.inr fun j => (f j).map (adr sa z)))))
def tr (sa : Nat → Nat) (z : Nat) (dA : Nat → ClassId) : Ce → va_E
  | .inl (t, a) => .inl (dA t, trA sa z a)
  | .inr (c, fs) => .inr (c, fs.map (mv sa z))
def dead : Ce := .inr (9999, [])
def eT : Nat → FieldType
  | 0 => .int
  | 1 => .char
  | 2 => .long
  | 3 => .byte
  | 5 => .array .int
  | _ => .object RX4
def tyL (dA : Nat → ClassId) : List (ClassId × FieldType) := [(dA 0, .int), (dA 1, .char), (dA 2, .long), (dA 3, .byte), (dA 4, .object RX4), (dA 5, .array .int)]
/-- the world w, of cells from z on, lies in the heap H; the third component says that the heap's end is the world's -/
def Rel (D : va_G) (dA : Nat → ClassId) (sa : Nat → Nat) (z : Nat) (w : Wd) (H : Heap) : Prop :=
  (w.2.2 = true → H.size = z + w.2.1) ∧ ∀ a : Nat, w.1 a = dead ∨ (100 ≤ a ∧ a < 100 + w.2.1 ∧ va_at D vwCl (adr sa z a, tr sa z dA (w.1 a)) H)
theorem adr_ge {sa : Nat → Nat} {z a : Nat} (h : 100 ≤ a) : adr sa z a = z + (a - 100) := by
  unfold adr
  rw [if_neg (by omega)]
theorem Rel.at {D : va_G} {dA : Nat → ClassId} {sa : Nat → Nat} {z : Nat} {w : Wd} {H : Heap} (h : Rel D dA sa z w H) {a : Nat} {x : Ce} (hx : w.1 a = x) (hd : x ≠ dead) : 100 ≤ a ∧ a < 100 + w.2.1 ∧ va_at D vwCl (adr sa z a, tr sa z dA x) H := by
  rcases h.2 a with e | e
  · exact absurd (hx.symm.trans e) hd
  · rw [hx] at e; exact e
theorem adr_inj {sa : Nat → Nat} {z a b : Nat} (ha : 100 ≤ a) (hb : 100 ≤ b) (h : adr sa z a = adr sa z b) : a = b := by
  rw [adr_ge ha, adr_ge hb] at h
  omega
def upW (w : Wd) (a : Nat) (x : Ce) : Wd := (fun b => if b = a then x else w.1 b, w.2)
/-- a cell that is there is written -/
theorem Rel.set {D : va_G} {dA : Nat → ClassId} {sa : Nat → Nat} {z : Nat} {w : Wd} {H H1 : Heap} (h : Rel D dA sa z w H) {a : Nat} {x x' : Ce} (hx : w.1 a = x) (hd : x ≠ dead) (hz : H1.size = H.size) (ho : ∀ q : Nat, q ≠ adr sa z a → H1[q]? = H[q]?) (he : va_at D vwCl (adr sa z a, tr sa z dA x') H1) : Rel D dA sa z (upW w a x') H1 := by
  obtain ⟨g1, g2, g3⟩ := Rel.at h hx hd
  obtain ⟨h2, h3⟩ := h
  refine ⟨fun e => by rw [hz]; exact h2 e, fun b => ?_⟩
  by_cases hb : b = a
  · subst hb
    refine Or.inr ⟨g1, g2, ?_⟩
    show va_at D vwCl (_, tr sa z dA (if b = b then x' else w.1 b)) H1
    rw [if_pos rfl]
    exact he
  · show (if b = a then x' else w.1 b) = dead ∨ _
    rw [if_neg hb]
    rcases h3 b with e | ⟨e1, e2, e3⟩
    · exact Or.inl e
    · refine Or.inr ⟨e1, e2, ?_⟩
      show va_at D vwCl (_, tr sa z dA (if b = a then x' else w.1 b)) H1
      rw [if_neg hb]
      exact e3.kept (ho _ (fun q => hb (adr_inj e1 g1 q)))
def nwW (w : Wd) (x : Ce) : Wd := (fun b => if b = 100 + w.2.1 then x else w.1 b, w.2.1 + 1, true)
/-- a cell is made -/
theorem Rel.new {D : va_G} {dA : Nat → ClassId} {sa : Nat → Nat} {z : Nat} {w : Wd} {H H1 : Heap} (h : Rel D dA sa z w H) (hf : w.2.2 = true) {x : Ce} (hz : H1.size = H.size + 1) (ho : ∀ q : Nat, q < H.size → H1[q]? = H[q]?) (he : va_at D vwCl (H.size, tr sa z dA x) H1) : Rel D dA sa z (nwW w x) H1 := by
  obtain ⟨E, n, f⟩ := w
  obtain ⟨h2, h3⟩ := h
  have h2 : H.size = z + n := h2 hf
  refine ⟨fun _ => by show H1.size = z + (n + 1); omega, fun b => ?_⟩
  by_cases hb : b = 100 + n
  · subst hb
    refine Or.inr ⟨by omega, by show _ < 100 + (n + 1); omega, ?_⟩
    show va_at D vwCl (_, tr sa z dA (if 100 + n = 100 + n then x else E _)) H1
    rw [if_pos rfl, adr_ge (by omega), show z + (100 + n - 100) = H.size by omega]
    exact he
  · show (if b = 100 + n then x else E b) = dead ∨ _
    rw [if_neg hb]
    rcases h3 b with e | ⟨e1, e2, e3⟩
    · exact Or.inl e
    · have e2 : b < 100 + n := e2
      refine Or.inr ⟨e1, by show b < 100 + (n + 1); omega, ?_⟩
      show va_at D vwCl (_, tr sa z dA (if b = 100 + n then x else E b)) H1
      rw [if_neg hb]
      exact e3.kept (ho _ e3.lt)
def stW (w : Wd) : Wd := (w.1, w.2.1, false)
/-- the heap grew, by things that have no number -/
theorem Rel.grown {D : va_G} {dA : Nat → ClassId} {sa : Nat → Nat} {z : Nat} {w : Wd} {H H1 : Heap} (h : Rel D dA sa z w H) (ho : ∀ q : Nat, q < H.size → H1[q]? = H[q]?) : Rel D dA sa z (stW w) H1 := by
  obtain ⟨h2, h3⟩ := h
  refine ⟨fun e => (by cases e), fun b => ?_⟩
  rcases h3 b with e | ⟨e1, e2, e3⟩
  · exact Or.inl e
  · exact Or.inr ⟨e1, e2, e3.kept (ho _ e3.lt)⟩
/-! the old heap's constants: a number below 100 each. 0: COMMANDS; 1: the switch map; 10 + j: the j-th command; 20 + i: the i-th text (nine forms, then the model's words); 50 + i: its bytes; 2: the formatter, if there is one -/
def txS (i : Nat) : List Int32 := ([[98, 108, 111, 99, 107, 32, 49], [99, 117, 115, 104, 105, 111, 110, 32, 49], [108, 105, 110, 107, 32, 50, 45, 50], [116, 114, 97, 105, 110, 32, 50, 42, 49], [103, 111, 97, 108, 32, 49, 62, 50], [99, 97, 116, 32, 50], [104, 111, 108, 100, 32, 49, 64, 50], [114, 101, 115, 99, 117, 101, 32, 49], [116, 105, 99, 107, 32, 50], [116, 105, 99, 107, 32], [59, 103, 111, 97, 108, 32], [62], [59, 99, 97, 116, 32], [59, 104, 111, 108, 100, 32], [64], [59]] : List (List Int32)).getD i []
def nTx : Nat := 16
def SFZ : List (String × String × String × Value) := [("SofaRailway", "COMMANDS", "[LSofaRailway$Command;", .ref 0), ("SofaRailway$1", "$SwitchMap$SofaRailway$Command", "[I", .ref 1), ("SofaRailway$Command", "BLOCK", "LSofaRailway$Command;", .ref 10), ("java/lang/String", "COMPACT_STRINGS", "Z", .int 1), ("java/lang/Integer", "DigitOnes", "[B", .ref 4), ("java/lang/Integer", "DigitTens", "[B", .ref 5)]
def SFT : List (FieldType × Nat × Nat × (Nat → Value)) := [(.object "SofaRailway$Command", 0, 9, fun j => .ref (10 + j)), (.int, 1, 9, fun j => .int (nI (j + 1))), (.byte, 4, 100, fun j => .int (nI (48 + j % 10))), (.byte, 5, 100, fun j => .int (nI (48 + j / 10)))] ++ (List.range nTx).map (fun i => (.byte, 50 + i, (txS i).length, fun j => .int ((txS i).getD j 0)))
def SFO : List (String × Nat) := (List.range 9).map (fun j => ("SofaRailway$Command", 10 + j)) ++ (List.range nTx).map (fun i => ("java/lang/String", 20 + i))
def SFF : List (String × String × String × Value × Nat) := (List.range 9).map (fun j => ("java/lang/Enum", "ordinal", "I", .int (nI j), 10 + j)) ++ ((List.range 9).map (fun j => ("SofaRailway$Command", "form", "Ljava/lang/String;", .ref (20 + j), 10 + j)) ++ ((List.range nTx).map (fun i => ("java/lang/String", "coder", "B", .int 0, 20 + i)) ++ (List.range nTx).map (fun i => ("java/lang/String", "value", "[B", .ref (50 + i), 20 + i))))
def SFR : List (String × Nat × String × Nat) := [("SofaRailwayLaw", 258, "tick ", 29), ("SofaRailwayLaw", 267, ";goal ", 30), ("SofaRailwayLaw", 269, ">", 31), ("SofaRailwayLaw", 275, ";cat ", 32), ("SofaRailwayLaw", 277, ";hold ", 33), ("SofaRailwayLaw", 279, "@", 34), ("SofaRailwayLaw", 281, ";", 35)]
def SFX : List (String × Nat × String) := [("SofaRailway", 354, "there is no such block or train"), ("SofaRailway", 356, "this argument is not allowed"), ("SofaRailway", 358, "the railway is not in the state for this"), ("SofaRailway", 360, "the block does not allow this"), ("SofaRailway", 352, "there is none"), ("SofaRailway", 345, "there is no such block"), ("SofaRailway", 350, "there is no such train"), ("SofaRailway", 231, "the train has no goal"), ("SofaRailway", 244, "there are no trains"), ("SofaRailway", 251, "there are no blocks"), ("SofaRailway", 286, "the input buffer is full"), ("SofaRailway", 296, "the text is malformed"), ("SofaRailway", 325, "a command failed"), ("SofaRailway", 331, "there is nothing to undo"), ("SofaRailway", 336, "nothing was saved")]
def SFM : List (String × Nat × MethodName × String) := [("SofaRailway", 11, ⟨"SofaRailway$Layout", "<init>", "()V"⟩, "SofaRailway"), ("SofaRailway$History", 24, ⟨"SofaRailway$Layout", "<init>", "()V"⟩, "SofaRailway"), ("SofaRailway", 31, ⟨"SofaRailway$Routes", "<init>", "()V"⟩, "SofaRailway"), ("SofaRailway", 38, ⟨"SofaRailway$Traffic", "<init>", "()V"⟩, "SofaRailway"), ("SofaRailway$Traffic", 11, ⟨"SofaRailway$Routes", "<init>", "()V"⟩, "SofaRailway"), ("SofaRailway", 45, ⟨"SofaRailway$CommandReader", "<init>", "()V"⟩, "SofaRailway"), ("SofaRailway", 52, ⟨"SofaRailway$Output", "<init>", "()V"⟩, "SofaRailway"), ("SofaRailway$Routes", 37, ⟨"SofaRailway", "has", "(II)Z"⟩, "SofaRailway"), ("SofaRailway$Layout", 64, ⟨"SofaRailway", "has", "(II)Z"⟩, "SofaRailway"), ("SofaRailway$Traffic", 38, ⟨"SofaRailway", "has", "(II)Z"⟩, "SofaRailway")]
def SFG : List (String × Nat × String × String × String × String) := [("SofaRailway$CommandReader", 48, "SofaRailway", "COMMANDS", "[LSofaRailway$Command;", "SofaRailway")]
def SFC : List (String × String) := [("java/lang/IndexOutOfBoundsException", "java/lang/IllegalArgumentException"), ("java/lang/IllegalStateException", "java/lang/IllegalArgumentException"), ("java/lang/UnsupportedOperationException", "java/lang/IllegalArgumentException"), ("java/util/NoSuchElementException", "java/lang/IllegalArgumentException"), ("java/lang/ArrayIndexOutOfBoundsException", "java/lang/IllegalArgumentException"), ("java/lang/ArithmeticException", "java/lang/IllegalArgumentException"), ("java/lang/IndexOutOfBoundsException", "java/lang/IllegalStateException"), ("java/lang/IllegalArgumentException", "java/lang/IllegalStateException"), ("java/lang/UnsupportedOperationException", "java/lang/IllegalStateException"), ("java/util/NoSuchElementException", "java/lang/IllegalStateException"), ("java/lang/ArrayIndexOutOfBoundsException", "java/lang/IllegalStateException"), ("java/lang/ArithmeticException", "java/lang/IllegalStateException"), ("java/lang/IllegalArgumentException", "java/lang/IndexOutOfBoundsException"), ("java/lang/IllegalStateException", "java/lang/IndexOutOfBoundsException"), ("java/lang/UnsupportedOperationException", "java/lang/IndexOutOfBoundsException"), ("java/util/NoSuchElementException", "java/lang/IndexOutOfBoundsException"), ("java/lang/ArithmeticException", "java/lang/IndexOutOfBoundsException"), ("java/lang/IndexOutOfBoundsException", "java/util/NoSuchElementException"), ("java/lang/IllegalArgumentException", "java/util/NoSuchElementException"), ("java/lang/IllegalStateException", "java/util/NoSuchElementException"), ("java/lang/UnsupportedOperationException", "java/util/NoSuchElementException"), ("java/lang/ArrayIndexOutOfBoundsException", "java/util/NoSuchElementException"), ("java/lang/ArithmeticException", "java/util/NoSuchElementException"), ("java/lang/IndexOutOfBoundsException", "java/lang/UnsupportedOperationException"), ("java/lang/IllegalArgumentException", "java/lang/UnsupportedOperationException"), ("java/lang/IllegalStateException", "java/lang/UnsupportedOperationException"), ("java/util/NoSuchElementException", "java/lang/UnsupportedOperationException"), ("java/lang/ArrayIndexOutOfBoundsException", "java/lang/UnsupportedOperationException"), ("java/lang/ArithmeticException", "java/lang/UnsupportedOperationException"), ("java/lang/IndexOutOfBoundsException", "java/lang/ArithmeticException"), ("java/lang/IllegalArgumentException", "java/lang/ArithmeticException"), ("java/lang/IllegalStateException", "java/lang/ArithmeticException"), ("java/lang/UnsupportedOperationException", "java/lang/ArithmeticException"), ("java/util/NoSuchElementException", "java/lang/ArithmeticException"), ("java/lang/ArrayIndexOutOfBoundsException", "java/lang/ArithmeticException")]
def isDC : Cond → Bool
  | .declares _ => true
  | .castable _ _ => true
  | _ => false
theorem isDC_cases {w : Cond} (h : isDC w = true) : (∃ x, w = .declares x) ∨ ∃ a b, w = .castable a b := by
  cases w <;> first | exact Or.inl ⟨_, rfl⟩ | exact Or.inr ⟨_, _, rfl⟩ | cases h
def OL : List Cond := lw_tbl.filter isDC
theorem OL_in {w : Cond} (h : w ∈ lw_tbl) (g : isDC w = true) : w ∈ OL := List.mem_filter.mpr ⟨h, g⟩
abbrev jPre : String := "jdk/internal/util/Preconditions"
abbrev jFmt : String := "Ljava/util/function/BiFunction;"
/-- the class of int[][] is there -/
def AOA (U : State) : Prop := (Cond.arrayOver (.array .int)).before #[] U = true
theorem AOA.moved {u U : State} (hvm : u.vm.Alike U.vm) (h : AOA u) : AOA U := arrayOver_alikeB hvm h
def SF (sa : Nat → Nat) (A : Nat → Prop) (U : State) (H : Heap) : Prop :=
  (∀ q ∈ SFZ, va_Z q.1 q.2.1 q.2.2.1 (mv sa 0 q.2.2.2) A U H) ∧
  (∀ q ∈ SFT, va_T q.1 (sa q.2.1) q.2.2.1 (fun j => mv sa 0 (q.2.2.2 j)) A U H) ∧
  (∀ q ∈ SFO, va_O q.1 (sa q.2) A U H) ∧
  (∀ q ∈ SFF, va_OF q.1 q.2.1 q.2.2.1 (mv sa 0 q.2.2.2.1) (sa q.2.2.2.2) A U H) ∧
  (∀ q ∈ SFR, vk_R q.1 q.2.1 q.2.2.1 (sa q.2.2.2) U) ∧
  (∀ q ∈ SFX, ∃ a, vk_R q.1 q.2.1 q.2.2 a U) ∧
  (∀ q ∈ SFM, va_Nw (.methodLinkNest q.1 q.2.1 q.2.2.1 q.2.2.2) U) ∧
  (∀ q ∈ SFG, va_Nw (.fieldLinkNest q.1 q.2.1 q.2.2.1 q.2.2.2.1 q.2.2.2.2.1 q.2.2.2.2.2) U) ∧
  (∀ q ∈ SFC, va_Nc q.1 q.2 U) ∧
  (va_Z jPre "SIOOBE_FORMATTER" jFmt .null A U H ∨ va_Z jPre "SIOOBE_FORMATTER" jFmt (.ref (sa 2)) A U H) ∧
  vx_Zq Bundle.tN "UNASSIGNED_STACK" Bundle.steD A U H ∧ vx_Zq Bundle.tN "SUPPRESSED_SENTINEL" Bundle.listD A U H ∧ va_AO RX4 U ∧ (∀ w ∈ OL, va_Nw w U) ∧ ∃ (sN : Nat) (sF : Nat → Int32), sN ≤ 260 ∧ va_T .int (sa 3) sN (fun j => .int (sF j)) A U H ∧ AOA U
theorem SF.warm {sa : Nat → Nat} {A : Nat → Prop} {s U : State} {H : Heap} (hW : s.WarmedH U.vm) (h : SF sa A s H) : SF sa A U H := by
  obtain ⟨h1, h2, h3, h4, h5, h6, h7, h8, h9, h10, h11, h12, h13, h14, sN, sF, h15, h16, h17⟩ := h
  refine ⟨fun q hq => va_Z.moved hW.alike (h1 q hq), fun q hq => va_T.moved hW.alike (h2 q hq), fun q hq => va_O.moved hW.alike (h3 q hq), fun q hq => va_OF.moved hW.alike (h4 q hq), fun q hq => vk_R.warm hW (h5 q hq), fun q hq => ?_, fun q hq => va_Nw.warmM hW (h7 q hq), fun q hq => va_Nw.warmF hW (h8 q hq), fun q hq => va_Nc.moved hW.alike (h9 q hq), ?_, vx_Zq.moved hW.alike h11, vx_Zq.moved hW.alike h12, va_AO.moved hW.alike h13, fun w hw => ?_, sN, sF, h15, va_T.moved hW.alike h16, h17.moved hW.alike⟩
  · obtain ⟨a, ha⟩ := h6 q hq
    exact ⟨a, vk_R.warm hW ha⟩
  · rcases h10 with h | h
    · exact Or.inl (va_Z.moved hW.alike h)
    · exact Or.inr (va_Z.moved hW.alike h)
  · have h := h14 w hw
    rcases isDC_cases ((List.mem_filter.mp hw).2) with ⟨x, rfl⟩ | ⟨a, b, rfl⟩
    · exact va_tabs rfl (rfl : (s.setVm U.vm).vm = U.vm) (show (Cond.declares x).before #[] (s.setVm U.vm) = true by rw [Cond.declares_setVm hW.alike]; exact h)
    · exact va_tabs rfl (rfl : (s.setVm U.vm).vm = U.vm) (show (Cond.castable a b).before #[] (s.setVm U.vm) = true by rw [Cond.castable_setVm hW.alike]; exact h)
theorem SF.vm {sa : Nat → Nat} {A : Nat → Prop} {u U : State} {H : Heap} (hv : u.vm = U.vm) (h : SF sa A u H) : SF sa A U H := by
  have hW : u.WarmedH U.vm := by rw [← hv]; exact State.WarmedH.refl u
  exact SF.warm hW h
theorem SF.kept {sa : Nat → Nat} {A : Nat → Prop} {U : State} {H H1 : Heap} (h : SF sa A U H) (hq : ∀ a : Nat, a < H.size → ¬ A a → H1[a]? = H[a]?) : SF sa A U H1 := by
  obtain ⟨h1, h2, h3, h4, h5, h6, h7, h8, h9, h10, h11, h12, h13, h14, sN, sF, h15, h16, h17⟩ := h
  refine ⟨fun q h => (h1 q h).kept hq, fun q h => (h2 q h).kept hq, fun q h => (h3 q h).kept hq, fun q h => (h4 q h).kept hq, h5, h6, h7, h8, h9, ?_, h11.kept hq, h12.kept hq, h13, h14, sN, sF, h15, h16.kept hq, h17⟩
  rcases h10 with h | h
  · exact Or.inl (h.kept hq)
  · exact Or.inr (h.kept hq)
abbrev Az (z : Nat) : Nat → Prop := fun q => z ≤ q
/-- what a frame of the method mi stands on -/
def Cx (d : Nat) (mi : MI) (p : Program) (l : Launch) (R : Room) (s : State) (m : MethodId) (args : Array Value) (meth : Method) (c : Code) (z : Nat) (sa : Nat → Nat) (D : va_G) (dA : Nat → ClassId) : Prop :=
  (p.tables.exec = Jvm.exec ∧ c.code = mi.2.1 ∧ c.maxLocals = mi.2.2.1 ∧ s.vm.findClass mi.1.cls = some m.cls ∧ ∀ w ∈ AL, w.before args s = true) ∧
  meth.sig.returnType = mi.2.2.2.1 ∧ meth.locks = false ∧ meth.name = mi.1.name ∧ c.exceptionTable.toList = tableOf mi.2.2.2.2 ∧ l.stackTraces = false ∧
  (d ≤ R.frames ∧ 64 * d ≤ R.locals) ∧ va_K D vwCl (tyL dA) s ∧ SF sa (Az z) s s.heap ∧ z ≤ s.heap.size
def retI (rt : Option FieldType) (i : Instr) (v : Option Value) : Prop :=
  (i = .return_ ∧ v = none ∧ rt = none) ∨ (i = .ireturn ∧ ∃ (x : Int32) (ty : FieldType), v = some (.int x) ∧ rt = some ty ∧ narrow ty (.int x) = .int x) ∨
  (i = .dreturn ∧ ∃ x : UInt64, v = some (.double x) ∧ rt = some .double) ∨ (i = .freturn ∧ ∃ x : UInt32, v = some (.float x) ∧ rt = some .float) ∨
  (i = .lreturn ∧ ∃ x : Int64, v = some (.long x) ∧ rt = some .long) ∨ (i = .areturn ∧ ∃ (a : Nat) (ty : FieldType), v = some (.ref a) ∧ rt = some ty ∧ ((∃ n, ty = .object n) ∨ ∃ t, ty = .array t))
abbrev jRTE : String := "java/lang/RuntimeException"
abbrev jEXC : String := "java/lang/Exception"
/-- the words of a throw of E, whose constructor (its bytes, its link's number k) calls RuntimeException's -/
def jAt (own : String) (ic : Nat) (E : String) (k : Nat) (bytes : ByteArray) : List Cond :=
  Bundle.throwableAtoms ++ (Bundle.throwableSAtoms ++ (Bundle.passSAtoms E jRTE k bytes ++ (Bundle.chainSAtoms jRTE [jEXC] ++
  [.methodLink own ic (Bundle.initS E), .instantiable E 6, .castable E E, .selects E Bundle.tFill0 Bundle.tFill0, .selects E Bundle.tFill Bundle.tFill,
   .lays E Bundle.tN "cause" "Ljava/lang/Throwable;", .lays E Bundle.tN "stackTrace" Bundle.steD, .lays E Bundle.tN "suppressedExceptions" Bundle.listD, .lays E Bundle.tN "detailMessage" "Ljava/lang/String;",
   .isRef (.static Bundle.tN "UNASSIGNED_STACK" Bundle.steD), .isRef (.static Bundle.tN "SUPPRESSED_SENTINEL" Bundle.listD),
   .fieldLink Bundle.tN 198 Bundle.tN "backtrace" "Ljava/lang/Object;", .lays Bundle.tN Bundle.tN "backtrace" "Ljava/lang/Object;", .lays E Bundle.tN "backtrace" "Ljava/lang/Object;"])))
/-- the bytecode of 'throw new E("text")', at pc, with its words -/
def ThrI (mi : MI) (pc : Nat) (E : String) : Prop :=
  ∃ (ik is ic ld k : Nat) (bytes : ByteArray) (text : String), (mi.1.cls, is, text) ∈ SFX ∧ decode mi.2.1 pc = .ok (.new ik, 3) ∧ decode mi.2.1 (pc + 3) = .ok (.dup, 1) ∧ ((ld = 2 ∧ decode mi.2.1 (pc + 4) = .ok (.ldc is, 2)) ∨ (ld = 3 ∧ decode mi.2.1 (pc + 4) = .ok (.ldc_w is, 3))) ∧
    decode mi.2.1 (pc + 4 + ld) = .ok (.invokespecial ic, 3) ∧ decode mi.2.1 (pc + 4 + ld + 3) = .ok (.athrow, 1) ∧ Cond.classLink mi.1.cls ik E ∈ AL ∧ Cond.initialized E ∈ AL ∧ Bundle.fit E = true ∧
    (decode bytes 0 = .ok (.aload_n 0, 1) ∧ decode bytes 1 = .ok (.aload_n 1, 1) ∧ decode bytes 2 = .ok (.invokespecial k, 3) ∧ decode bytes 5 = .ok (.return_, 1)) ∧
    (∀ w ∈ (jAt mi.1.cls ic E k bytes).filter vx_no, w ∈ lw_tbl ∧ (goodWord w || isDC w) = true) ∧ mi.2.2.2.2 = []
/-- the locals -/
def lrel (sa : Nat → Nat) (z : Nat) (nL : Nat) (lc : List (Option Value)) (ls : Array Slot) : Prop := ls.size = nL ∧ lv_wf ls ∧ ∀ (i : Nat) (v : Value), lc[i]? = some (some v) → ls[i]? = some (.val (mv sa z v))
/-- what the judgement's post asks of an end by return -/
def HR (mi : MI) (p : Program) (l : Launch) (e : Env) (R : Room) (s : State) (m : MethodId) (args : Array Value) (below : List Frame) (meth : Method) (c : Code) (z : Nat) (sa : Nat → Nat) (D : va_G) (dA : Nat → ClassId) (Q : Po) (Z : State → Prop) (mc ms : Nat) : Prop :=
  ∀ (v : Option Value) (w : Wd) (H : Heap) (locs : List Loc) (pc : Nat) (ls : Array Slot) (i : Instr), Q (.inl v) w → Rel D dA sa z w H → va_S (Az z) s.heap H locs → retI mi.2.2.2.1 i v → decode c.code pc = .ok (i, 1) → W p l e R s m args below meth c H locs mc ms Z (F0 m pc ls (v.toList.map (mv sa z)))
/-- .. by an exception that came from a call -/
def HX (mi : MI) (p : Program) (l : Launch) (e : Env) (R : Room) (s : State) (m : MethodId) (args : Array Value) (below : List Frame) (meth : Method) (c : Code) (z : Nat) (sa : Nat → Nat) (D : va_G) (dA : Nat → ClassId) (Q : Po) (Z : State → Prop) (mc ms : Nat) : Prop :=
  ∀ (E : String) (w : Wd) (H : Heap) (locs : List Loc) (pc : Nat) (ls : Array Slot) (rest : List Value) (q : Addr) (ce : Cell), Q (.inr E) w → Rel D dA sa z w H → va_S (Az z) s.heap H locs → (∀ x ∈ tableOf mi.2.2.2.2, covers x pc = false) → H[q]? = some ce → ce.vm = .none → s.vm.findClass E = some ce.cls → vx_W p l e R s m args below meth c H locs mc ms Z (F0 m pc ls rest) q
/-- .. by a throw statement -/
def HT (mi : MI) (p : Program) (l : Launch) (e : Env) (R : Room) (s : State) (m : MethodId) (args : Array Value) (below : List Frame) (meth : Method) (c : Code) (z : Nat) (sa : Nat → Nat) (D : va_G) (dA : Nat → ClassId) (Q : Po) (Z : State → Prop) (mc ms : Nat) : Prop :=
  ∀ (E : String) (w : Wd) (H : Heap) (locs : List Loc) (cells slots pc : Nat) (ls : Array Slot), Q (.inr E) (stW w) → Rel D dA sa z w H → va_S (Az z) s.heap H locs → ls.size = mi.2.2.1 → ThrI mi pc E → cells + 1 ≤ mc → slots + 6 ≤ ms → W p l e R s m args below meth c H locs cells slots Z (F0 m pc ls [])
/-- THE JUDGEMENT: the frame of mi at pc, with the locals lc and the stack st, in the world w, with room for kb cells of sb slots (and d frames), comes to an end that Q allows -/
def J (d : Nat) (mi : MI) (pc : Nat) (lc : List (Option Value)) (st : List Value) (w : Wd) (kb sb : Nat) (Q : Po) : Prop :=
  ∀ (p : Program) (l : Launch) (e : Env) (R : Room) (s : State) (m : MethodId) (args : Array Value) (below : List Frame) (meth : Method) (c : Code) (z : Nat) (sa : Nat → Nat) (D : va_G) (dA : Nat → ClassId) (Z : State → Prop) (mc ms : Nat),
    Cx d mi p l R s m args meth c z sa D dA → HR mi p l e R s m args below meth c z sa D dA Q Z mc ms → HX mi p l e R s m args below meth c z sa D dA Q Z mc ms → HT mi p l e R s m args below meth c z sa D dA Q Z mc ms → mc ≤ R.cells → ms ≤ R.slots →
    ∀ (H : Heap) (locs : List Loc) (cells slots : Nat) (ls : Array Slot), Rel D dA sa z w H → va_S (Az z) s.heap H locs → lrel sa z mi.2.2.1 lc ls → cells + kb ≤ mc → slots + sb ≤ ms →
    W p l e R s m args below meth c H locs cells slots Z (F0 m pc ls (st.map (mv sa z)))
/-- .. with an exception of the class E in flight -/
def JX (d : Nat) (mi : MI) (pc : Nat) (lc : List (Option Value)) (w : Wd) (kb sb : Nat) (Q : Po) (E : String) : Prop :=
  ∀ (p : Program) (l : Launch) (e : Env) (R : Room) (s : State) (m : MethodId) (args : Array Value) (below : List Frame) (meth : Method) (c : Code) (z : Nat) (sa : Nat → Nat) (D : va_G) (dA : Nat → ClassId) (Z : State → Prop) (mc ms : Nat),
    Cx d mi p l R s m args meth c z sa D dA → HR mi p l e R s m args below meth c z sa D dA Q Z mc ms → HX mi p l e R s m args below meth c z sa D dA Q Z mc ms → HT mi p l e R s m args below meth c z sa D dA Q Z mc ms → mc ≤ R.cells → ms ≤ R.slots →
    ∀ (H : Heap) (locs : List Loc) (cells slots : Nat) (ls : Array Slot) (rest : List Value) (q : Addr) (ce : Cell), Rel D dA sa z w H → va_S (Az z) s.heap H locs → lrel sa z mi.2.2.1 lc ls → cells + kb ≤ mc → slots + sb ≤ ms → H[q]? = some ce → ce.vm = .none → s.vm.findClass E = some ce.cls →
    vx_W p l e R s m args below meth c H locs cells slots Z (F0 m pc ls rest) q
/-! stack, locals, arithmetic -/
section
variable {d : Nat} {mi : MI} {pc : Nat} {lc : List (Option Value)} {st : List Value} {w : Wd} {kb sb : Nat} {Q : Po}
theorem J_iconst {n : Int} {v : Int32} (hd : decode mi.2.1 pc = .ok (.iconst n, 1)) (hv : Int32.ofInt n = v) (k : J d mi (pc + 1) lc (.int v :: st) w kb sb Q) : J d mi pc lc (st) w kb sb Q := by
  intro p l e R s m args below meth c z sa D dA Z mc ms C h1 h2 h3 h4 h5 H locs cells slots ls hR hS hl h6 h7
  exact lv_iconst C.1.1 C.1.2.1 hd hv (k p l e R s m args below meth c z sa D dA Z mc ms C h1 h2 h3 h4 h5 H locs cells slots ls hR hS hl h6 h7)
theorem J_bipush {n : Int} {v : Int32} (hd : decode mi.2.1 pc = .ok (.bipush n, 2)) (hv : (Int8.ofInt n).toInt32 = v) (k : J d mi (pc + 2) lc (.int v :: st) w kb sb Q) : J d mi pc lc (st) w kb sb Q := by
  intro p l e R s m args below meth c z sa D dA Z mc ms C h1 h2 h3 h4 h5 H locs cells slots ls hR hS hl h6 h7
  exact lv_bipush C.1.1 C.1.2.1 hd hv (k p l e R s m args below meth c z sa D dA Z mc ms C h1 h2 h3 h4 h5 H locs cells slots ls hR hS hl h6 h7)
theorem J_sipush {n : Int} {v : Int32} (hd : decode mi.2.1 pc = .ok (.sipush n, 3)) (hv : (Int16.ofInt n).toInt32 = v) (k : J d mi (pc + 3) lc (.int v :: st) w kb sb Q) : J d mi pc lc (st) w kb sb Q := by
  intro p l e R s m args below meth c z sa D dA Z mc ms C h1 h2 h3 h4 h5 H locs cells slots ls hR hS hl h6 h7
  exact lv_sipush C.1.1 C.1.2.1 hd hv (k p l e R s m args below meth c z sa D dA Z mc ms C h1 h2 h3 h4 h5 H locs cells slots ls hR hS hl h6 h7)
theorem J_lconst {n : Fin 2} {v : Int64} (hd : decode mi.2.1 pc = .ok (.lconst n, 1)) (hv : Int64.ofNat (n : Nat) = v) (k : J d mi (pc + 1) lc (.long v :: st) w kb sb Q) : J d mi pc lc (st) w kb sb Q := by
  intro p l e R s m args below meth c z sa D dA Z mc ms C h1 h2 h3 h4 h5 H locs cells slots ls hR hS hl h6 h7
  exact lv_lconst C.1.1 C.1.2.1 hd hv (k p l e R s m args below meth c z sa D dA Z mc ms C h1 h2 h3 h4 h5 H locs cells slots ls hR hS hl h6 h7)
theorem J_iadd {x y : Int32} (hd : decode mi.2.1 pc = .ok (.iadd, 1)) (k : J d mi (pc + 1) lc (.int (x + y) :: st) w kb sb Q) : J d mi pc lc (.int y :: .int x :: st) w kb sb Q := by
  intro p l e R s m args below meth c z sa D dA Z mc ms C h1 h2 h3 h4 h5 H locs cells slots ls hR hS hl h6 h7
  exact lv_iadd C.1.1 C.1.2.1 hd (k p l e R s m args below meth c z sa D dA Z mc ms C h1 h2 h3 h4 h5 H locs cells slots ls hR hS hl h6 h7)
theorem J_isub {x y : Int32} (hd : decode mi.2.1 pc = .ok (.isub, 1)) (k : J d mi (pc + 1) lc (.int (x - y) :: st) w kb sb Q) : J d mi pc lc (.int y :: .int x :: st) w kb sb Q := by
  intro p l e R s m args below meth c z sa D dA Z mc ms C h1 h2 h3 h4 h5 H locs cells slots ls hR hS hl h6 h7
  exact lv_isub C.1.1 C.1.2.1 hd (k p l e R s m args below meth c z sa D dA Z mc ms C h1 h2 h3 h4 h5 H locs cells slots ls hR hS hl h6 h7)
theorem J_imul {x y : Int32} (hd : decode mi.2.1 pc = .ok (.imul, 1)) (k : J d mi (pc + 1) lc (.int (x * y) :: st) w kb sb Q) : J d mi pc lc (.int y :: .int x :: st) w kb sb Q := by
  intro p l e R s m args below meth c z sa D dA Z mc ms C h1 h2 h3 h4 h5 H locs cells slots ls hR hS hl h6 h7
  exact lv_imul C.1.1 C.1.2.1 hd (k p l e R s m args below meth c z sa D dA Z mc ms C h1 h2 h3 h4 h5 H locs cells slots ls hR hS hl h6 h7)
theorem J_iand {x y : Int32} (hd : decode mi.2.1 pc = .ok (.iand, 1)) (k : J d mi (pc + 1) lc (.int (x &&& y) :: st) w kb sb Q) : J d mi pc lc (.int y :: .int x :: st) w kb sb Q := by
  intro p l e R s m args below meth c z sa D dA Z mc ms C h1 h2 h3 h4 h5 H locs cells slots ls hR hS hl h6 h7
  exact lv_iand C.1.1 C.1.2.1 hd (k p l e R s m args below meth c z sa D dA Z mc ms C h1 h2 h3 h4 h5 H locs cells slots ls hR hS hl h6 h7)
theorem J_ior {x y : Int32} (hd : decode mi.2.1 pc = .ok (.ior, 1)) (k : J d mi (pc + 1) lc (.int (x ||| y) :: st) w kb sb Q) : J d mi pc lc (.int y :: .int x :: st) w kb sb Q := by
  intro p l e R s m args below meth c z sa D dA Z mc ms C h1 h2 h3 h4 h5 H locs cells slots ls hR hS hl h6 h7
  exact lv_ior C.1.1 C.1.2.1 hd (k p l e R s m args below meth c z sa D dA Z mc ms C h1 h2 h3 h4 h5 H locs cells slots ls hR hS hl h6 h7)
theorem J_ixor {x y : Int32} (hd : decode mi.2.1 pc = .ok (.ixor, 1)) (k : J d mi (pc + 1) lc (.int (x ^^^ y) :: st) w kb sb Q) : J d mi pc lc (.int y :: .int x :: st) w kb sb Q := by
  intro p l e R s m args below meth c z sa D dA Z mc ms C h1 h2 h3 h4 h5 H locs cells slots ls hR hS hl h6 h7
  exact lv_ixor C.1.1 C.1.2.1 hd (k p l e R s m args below meth c z sa D dA Z mc ms C h1 h2 h3 h4 h5 H locs cells slots ls hR hS hl h6 h7)
theorem J_ishl {x y : Int32} (hd : decode mi.2.1 pc = .ok (.ishl, 1)) (k : J d mi (pc + 1) lc (.int (x <<< (y &&& 31)) :: st) w kb sb Q) : J d mi pc lc (.int y :: .int x :: st) w kb sb Q := by
  intro p l e R s m args below meth c z sa D dA Z mc ms C h1 h2 h3 h4 h5 H locs cells slots ls hR hS hl h6 h7
  exact lv_ishl C.1.1 C.1.2.1 hd (k p l e R s m args below meth c z sa D dA Z mc ms C h1 h2 h3 h4 h5 H locs cells slots ls hR hS hl h6 h7)
theorem J_ishr {x y : Int32} (hd : decode mi.2.1 pc = .ok (.ishr, 1)) (k : J d mi (pc + 1) lc (.int (x >>> (y &&& 31)) :: st) w kb sb Q) : J d mi pc lc (.int y :: .int x :: st) w kb sb Q := by
  intro p l e R s m args below meth c z sa D dA Z mc ms C h1 h2 h3 h4 h5 H locs cells slots ls hR hS hl h6 h7
  exact lv_ishr C.1.1 C.1.2.1 hd (k p l e R s m args below meth c z sa D dA Z mc ms C h1 h2 h3 h4 h5 H locs cells slots ls hR hS hl h6 h7)
theorem J_iushr {x y v : Int32} (hd : decode mi.2.1 pc = .ok (.iushr, 1)) (hv : (x.toUInt32 >>> (y.toUInt32 &&& Int32.toUInt32 31)).toInt32 = v) (k : J d mi (pc + 1) lc (.int v :: st) w kb sb Q) : J d mi pc lc (.int y :: .int x :: st) w kb sb Q := by
  intro p l e R s m args below meth c z sa D dA Z mc ms C h1 h2 h3 h4 h5 H locs cells slots ls hR hS hl h6 h7
  exact lv_iushr C.1.1 C.1.2.1 hd hv (k p l e R s m args below meth c z sa D dA Z mc ms C h1 h2 h3 h4 h5 H locs cells slots ls hR hS hl h6 h7)
theorem J_idiv {x y : Int32} (hd : decode mi.2.1 pc = .ok (.idiv, 1)) (hne : ¬ y = 0) (k : J d mi (pc + 1) lc (.int (x / y) :: st) w kb sb Q) : J d mi pc lc (.int y :: .int x :: st) w kb sb Q := by
  intro p l e R s m args below meth c z sa D dA Z mc ms C h1 h2 h3 h4 h5 H locs cells slots ls hR hS hl h6 h7
  exact lv_idiv C.1.1 C.1.2.1 hd hne (k p l e R s m args below meth c z sa D dA Z mc ms C h1 h2 h3 h4 h5 H locs cells slots ls hR hS hl h6 h7)
theorem J_irem {x y : Int32} (hd : decode mi.2.1 pc = .ok (.irem, 1)) (hne : ¬ y = 0) (k : J d mi (pc + 1) lc (.int (x - x / y * y) :: st) w kb sb Q) : J d mi pc lc (.int y :: .int x :: st) w kb sb Q := by
  intro p l e R s m args below meth c z sa D dA Z mc ms C h1 h2 h3 h4 h5 H locs cells slots ls hR hS hl h6 h7
  exact lv_irem C.1.1 C.1.2.1 hd hne (k p l e R s m args below meth c z sa D dA Z mc ms C h1 h2 h3 h4 h5 H locs cells slots ls hR hS hl h6 h7)
theorem J_i2l {x : Int32} {v : Int64} (hd : decode mi.2.1 pc = .ok (.i2l, 1)) (hv : x.toInt64 = v) (k : J d mi (pc + 1) lc (.long v :: st) w kb sb Q) : J d mi pc lc (.int x :: st) w kb sb Q := by
  intro p l e R s m args below meth c z sa D dA Z mc ms C h1 h2 h3 h4 h5 H locs cells slots ls hR hS hl h6 h7
  exact lv_i2l C.1.1 C.1.2.1 hd hv (k p l e R s m args below meth c z sa D dA Z mc ms C h1 h2 h3 h4 h5 H locs cells slots ls hR hS hl h6 h7)
theorem J_i2c {x v : Int32} (hd : decode mi.2.1 pc = .ok (.i2c, 1)) (hv : (x.toUInt32 % 65536).toInt32 = v) (k : J d mi (pc + 1) lc (.int v :: st) w kb sb Q) : J d mi pc lc (.int x :: st) w kb sb Q := by
  intro p l e R s m args below meth c z sa D dA Z mc ms C h1 h2 h3 h4 h5 H locs cells slots ls hR hS hl h6 h7
  exact lv_i2c C.1.1 C.1.2.1 hd hv (k p l e R s m args below meth c z sa D dA Z mc ms C h1 h2 h3 h4 h5 H locs cells slots ls hR hS hl h6 h7)
theorem J_i2d {x : Int32} (hd : decode mi.2.1 pc = .ok (.i2d, 1)) (k : J d mi (pc + 1) lc (.double (FP.i2d x) :: st) w kb sb Q) : J d mi pc lc (.int x :: st) w kb sb Q := by
  intro p l e R s m args below meth c z sa D dA Z mc ms C h1 h2 h3 h4 h5 H locs cells slots ls hR hS hl h6 h7
  exact lv_i2d C.1.1 C.1.2.1 hd (k p l e R s m args below meth c z sa D dA Z mc ms C h1 h2 h3 h4 h5 H locs cells slots ls hR hS hl h6 h7)
theorem J_i2f {x : Int32} (hd : decode mi.2.1 pc = .ok (.i2f, 1)) (k : J d mi (pc + 1) lc (.float (FP.i2f x) :: st) w kb sb Q) : J d mi pc lc (.int x :: st) w kb sb Q := by
  intro p l e R s m args below meth c z sa D dA Z mc ms C h1 h2 h3 h4 h5 H locs cells slots ls hR hS hl h6 h7
  exact lv_i2f C.1.1 C.1.2.1 hd (k p l e R s m args below meth c z sa D dA Z mc ms C h1 h2 h3 h4 h5 H locs cells slots ls hR hS hl h6 h7)
theorem J_ddiv {x y : UInt64} (hd : decode mi.2.1 pc = .ok (.ddiv, 1)) (hne : vf_n64 (FP.ddiv x y)) (k : J d mi (pc + 1) lc (.double (FP.ddiv x y) :: st) w kb sb Q) : J d mi pc lc (.double y :: .double x :: st) w kb sb Q := by
  intro p l e R s m args below meth c z sa D dA Z mc ms C h1 h2 h3 h4 h5 H locs cells slots ls hR hS hl h6 h7
  exact lv_ddiv C.1.1 C.1.2.1 hd hne (k p l e R s m args below meth c z sa D dA Z mc ms C h1 h2 h3 h4 h5 H locs cells slots ls hR hS hl h6 h7)
theorem J_fdiv {x y : UInt32} (hd : decode mi.2.1 pc = .ok (.fdiv, 1)) (hne : vf_n32 (FP.fdiv x y)) (k : J d mi (pc + 1) lc (.float (FP.fdiv x y) :: st) w kb sb Q) : J d mi pc lc (.float y :: .float x :: st) w kb sb Q := by
  intro p l e R s m args below meth c z sa D dA Z mc ms C h1 h2 h3 h4 h5 H locs cells slots ls hR hS hl h6 h7
  exact lv_fdiv C.1.1 C.1.2.1 hd hne (k p l e R s m args below meth c z sa D dA Z mc ms C h1 h2 h3 h4 h5 H locs cells slots ls hR hS hl h6 h7)
theorem J_f2d {x : UInt32} (hd : decode mi.2.1 pc = .ok (.f2d, 1)) (hne : vf_n64 (FP.f2d x)) (k : J d mi (pc + 1) lc (.double (FP.f2d x) :: st) w kb sb Q) : J d mi pc lc (.float x :: st) w kb sb Q := by
  intro p l e R s m args below meth c z sa D dA Z mc ms C h1 h2 h3 h4 h5 H locs cells slots ls hR hS hl h6 h7
  exact lv_f2d C.1.1 C.1.2.1 hd hne (k p l e R s m args below meth c z sa D dA Z mc ms C h1 h2 h3 h4 h5 H locs cells slots ls hR hS hl h6 h7)
theorem J_dcmp {x y : UInt64} {op : CmpOp} (hd : decode mi.2.1 pc = .ok (.dcmp op, 1)) (k : J d mi (pc + 1) lc (.int (Op.cmpValue (FP.dcmp x y) op) :: st) w kb sb Q) : J d mi pc lc (.double y :: .double x :: st) w kb sb Q := by
  intro p l e R s m args below meth c z sa D dA Z mc ms C h1 h2 h3 h4 h5 H locs cells slots ls hR hS hl h6 h7
  exact lv_dcmp C.1.1 C.1.2.1 hd (k p l e R s m args below meth c z sa D dA Z mc ms C h1 h2 h3 h4 h5 H locs cells slots ls hR hS hl h6 h7)
theorem J_fcmp {x y : UInt32} {op : CmpOp} (hd : decode mi.2.1 pc = .ok (.fcmp op, 1)) (k : J d mi (pc + 1) lc (.int (Op.cmpValue (FP.fcmp x y) op) :: st) w kb sb Q) : J d mi pc lc (.float y :: .float x :: st) w kb sb Q := by
  intro p l e R s m args below meth c z sa D dA Z mc ms C h1 h2 h3 h4 h5 H locs cells slots ls hR hS hl h6 h7
  exact lv_fcmp C.1.1 C.1.2.1 hd (k p l e R s m args below meth c z sa D dA Z mc ms C h1 h2 h3 h4 h5 H locs cells slots ls hR hS hl h6 h7)
theorem J_lcmp {x y : Int64} (hd : decode mi.2.1 pc = .ok (.lcmp, 1)) (k : J d mi (pc + 1) lc (.int (lg_cmp x y) :: st) w kb sb Q) : J d mi pc lc (.long y :: .long x :: st) w kb sb Q := by
  intro p l e R s m args below meth c z sa D dA Z mc ms C h1 h2 h3 h4 h5 H locs cells slots ls hR hS hl h6 h7
  exact W.lcmp C.1.1 C.1.2.1 hd (k p l e R s m args below meth c z sa D dA Z mc ms C h1 h2 h3 h4 h5 H locs cells slots ls hR hS hl h6 h7)
theorem J_dup {va : Value} (hd : decode mi.2.1 pc = .ok (.dup, 1)) (hva : va.category = 1) (k : J d mi (pc + 1) lc (va :: va :: st) w kb sb Q) : J d mi pc lc (va :: st) w kb sb Q := by
  intro p l e R s m args below meth c z sa D dA Z mc ms C h1 h2 h3 h4 h5 H locs cells slots ls hR hS hl h6 h7
  exact lv_dup C.1.1 C.1.2.1 hd ((mv_cat sa z va).trans hva) (k p l e R s m args below meth c z sa D dA Z mc ms C h1 h2 h3 h4 h5 H locs cells slots ls hR hS hl h6 h7)
theorem J_pop {va : Value} (hd : decode mi.2.1 pc = .ok (.pop, 1)) (hva : va.category = 1) (k : J d mi (pc + 1) lc (st) w kb sb Q) : J d mi pc lc (va :: st) w kb sb Q := by
  intro p l e R s m args below meth c z sa D dA Z mc ms C h1 h2 h3 h4 h5 H locs cells slots ls hR hS hl h6 h7
  exact lv_pop C.1.1 C.1.2.1 hd ((mv_cat sa z va).trans hva) (k p l e R s m args below meth c z sa D dA Z mc ms C h1 h2 h3 h4 h5 H locs cells slots ls hR hS hl h6 h7)
theorem J_dup_x1 {va vb : Value} (hd : decode mi.2.1 pc = .ok (.dup_x1, 1)) (hva : va.category = 1) (hvb : vb.category = 1) (k : J d mi (pc + 1) lc (va :: vb :: va :: st) w kb sb Q) : J d mi pc lc (va :: vb :: st) w kb sb Q := by
  intro p l e R s m args below meth c z sa D dA Z mc ms C h1 h2 h3 h4 h5 H locs cells slots ls hR hS hl h6 h7
  exact lv_dup_x1 C.1.1 C.1.2.1 hd ((mv_cat sa z va).trans hva) ((mv_cat sa z vb).trans hvb) (k p l e R s m args below meth c z sa D dA Z mc ms C h1 h2 h3 h4 h5 H locs cells slots ls hR hS hl h6 h7)
theorem J_dup2 {va vb : Value} (hd : decode mi.2.1 pc = .ok (.dup2, 1)) (hva : va.category = 1) (hvb : vb.category = 1) (k : J d mi (pc + 1) lc (va :: vb :: va :: vb :: st) w kb sb Q) : J d mi pc lc (va :: vb :: st) w kb sb Q := by
  intro p l e R s m args below meth c z sa D dA Z mc ms C h1 h2 h3 h4 h5 H locs cells slots ls hR hS hl h6 h7
  exact lv_dup2_11 C.1.1 C.1.2.1 hd ((mv_cat sa z va).trans hva) ((mv_cat sa z vb).trans hvb) (k p l e R s m args below meth c z sa D dA Z mc ms C h1 h2 h3 h4 h5 H locs cells slots ls hR hS hl h6 h7)
theorem J_iload_n {n : Fin 4} {i : Nat} {x : Int32} (hd : decode mi.2.1 pc = .ok (.iload_n n, 1)) (hi : (n : Nat) = i) (hv : lc[i]? = some (some (.int x))) (k : J d mi (pc + 1) lc (.int x :: st) w kb sb Q) : J d mi pc lc st w kb sb Q := by
  intro p l e R s m args below meth c z sa D dA Z mc ms C h1 h2 h3 h4 h5 H locs cells slots ls hR hS hl h6 h7
  exact lv_iload_n C.1.1 C.1.2.1 hd hi (hl.2.2 i _ hv) (k p l e R s m args below meth c z sa D dA Z mc ms C h1 h2 h3 h4 h5 H locs cells slots ls hR hS hl h6 h7)
theorem J_iload {i : Nat} {x : Int32} (hd : decode mi.2.1 pc = .ok (.iload i, 2)) (hv : lc[i]? = some (some (.int x))) (k : J d mi (pc + 2) lc (.int x :: st) w kb sb Q) : J d mi pc lc st w kb sb Q := by
  intro p l e R s m args below meth c z sa D dA Z mc ms C h1 h2 h3 h4 h5 H locs cells slots ls hR hS hl h6 h7
  exact lv_iload C.1.1 C.1.2.1 hd (hl.2.2 i _ hv) (k p l e R s m args below meth c z sa D dA Z mc ms C h1 h2 h3 h4 h5 H locs cells slots ls hR hS hl h6 h7)
theorem J_lload_n {n : Fin 4} {i : Nat} {x : Int64} (hd : decode mi.2.1 pc = .ok (.lload_n n, 1)) (hi : (n : Nat) = i) (hv : lc[i]? = some (some (.long x))) (k : J d mi (pc + 1) lc (.long x :: st) w kb sb Q) : J d mi pc lc st w kb sb Q := by
  intro p l e R s m args below meth c z sa D dA Z mc ms C h1 h2 h3 h4 h5 H locs cells slots ls hR hS hl h6 h7
  exact lv_lload_n C.1.1 C.1.2.1 hd hi (hl.2.2 i _ hv) (k p l e R s m args below meth c z sa D dA Z mc ms C h1 h2 h3 h4 h5 H locs cells slots ls hR hS hl h6 h7)
theorem J_lload {i : Nat} {x : Int64} (hd : decode mi.2.1 pc = .ok (.lload i, 2)) (hv : lc[i]? = some (some (.long x))) (k : J d mi (pc + 2) lc (.long x :: st) w kb sb Q) : J d mi pc lc st w kb sb Q := by
  intro p l e R s m args below meth c z sa D dA Z mc ms C h1 h2 h3 h4 h5 H locs cells slots ls hR hS hl h6 h7
  exact lv_lload C.1.1 C.1.2.1 hd (hl.2.2 i _ hv) (k p l e R s m args below meth c z sa D dA Z mc ms C h1 h2 h3 h4 h5 H locs cells slots ls hR hS hl h6 h7)
theorem J_dload_n {n : Fin 4} {i : Nat} {x : UInt64} (hd : decode mi.2.1 pc = .ok (.dload_n n, 1)) (hi : (n : Nat) = i) (hv : lc[i]? = some (some (.double x))) (k : J d mi (pc + 1) lc (.double x :: st) w kb sb Q) : J d mi pc lc st w kb sb Q := by
  intro p l e R s m args below meth c z sa D dA Z mc ms C h1 h2 h3 h4 h5 H locs cells slots ls hR hS hl h6 h7
  exact lv_dload_n C.1.1 C.1.2.1 hd hi (hl.2.2 i _ hv) (k p l e R s m args below meth c z sa D dA Z mc ms C h1 h2 h3 h4 h5 H locs cells slots ls hR hS hl h6 h7)
theorem J_dload {i : Nat} {x : UInt64} (hd : decode mi.2.1 pc = .ok (.dload i, 2)) (hv : lc[i]? = some (some (.double x))) (k : J d mi (pc + 2) lc (.double x :: st) w kb sb Q) : J d mi pc lc st w kb sb Q := by
  intro p l e R s m args below meth c z sa D dA Z mc ms C h1 h2 h3 h4 h5 H locs cells slots ls hR hS hl h6 h7
  exact lv_dload C.1.1 C.1.2.1 hd (hl.2.2 i _ hv) (k p l e R s m args below meth c z sa D dA Z mc ms C h1 h2 h3 h4 h5 H locs cells slots ls hR hS hl h6 h7)
theorem J_fload {i : Nat} {x : UInt32} (hd : decode mi.2.1 pc = .ok (.fload i, 2)) (hv : lc[i]? = some (some (.float x))) (k : J d mi (pc + 2) lc (.float x :: st) w kb sb Q) : J d mi pc lc st w kb sb Q := by
  intro p l e R s m args below meth c z sa D dA Z mc ms C h1 h2 h3 h4 h5 H locs cells slots ls hR hS hl h6 h7
  exact lv_fload C.1.1 C.1.2.1 hd (hl.2.2 i _ hv) (k p l e R s m args below meth c z sa D dA Z mc ms C h1 h2 h3 h4 h5 H locs cells slots ls hR hS hl h6 h7)
theorem J_aload_n {n : Fin 4} {i : Nat} {x : Nat} (hd : decode mi.2.1 pc = .ok (.aload_n n, 1)) (hi : (n : Nat) = i) (hv : lc[i]? = some (some (.ref x))) (k : J d mi (pc + 1) lc (.ref x :: st) w kb sb Q) : J d mi pc lc st w kb sb Q := by
  intro p l e R s m args below meth c z sa D dA Z mc ms C h1 h2 h3 h4 h5 H locs cells slots ls hR hS hl h6 h7
  exact lv_aload_n C.1.1 C.1.2.1 hd hi (hl.2.2 i _ hv) (k p l e R s m args below meth c z sa D dA Z mc ms C h1 h2 h3 h4 h5 H locs cells slots ls hR hS hl h6 h7)
theorem J_aload {i : Nat} {x : Nat} (hd : decode mi.2.1 pc = .ok (.aload i, 2)) (hv : lc[i]? = some (some (.ref x))) (k : J d mi (pc + 2) lc (.ref x :: st) w kb sb Q) : J d mi pc lc st w kb sb Q := by
  intro p l e R s m args below meth c z sa D dA Z mc ms C h1 h2 h3 h4 h5 H locs cells slots ls hR hS hl h6 h7
  exact lv_aload C.1.1 C.1.2.1 hd (hl.2.2 i _ hv) (k p l e R s m args below meth c z sa D dA Z mc ms C h1 h2 h3 h4 h5 H locs cells slots ls hR hS hl h6 h7)
def okst (lc : List (Option Value)) : Nat → Bool
  | 0 => true
  | j + 1 => match lc[j]? with
    | some (some v) => !(v.category == 2)
    | _ => true
def lcL (sa : Nat → Nat) (z : Nat) (lc : List (Option Value)) : List (Nat × Value) := (List.range lc.length).filterMap (fun i => (lc[i]?.join).map (fun v => (i, mv sa z v)))
theorem lcL_mem {sa : Nat → Nat} {z : Nat} {lc : List (Option Value)} {i : Nat} {v : Value} (h : lc[i]? = some (some v)) : (i, mv sa z v) ∈ lcL sa z lc := by
  unfold lcL
  refine List.mem_filterMap.mpr ⟨i, List.mem_range.mpr (List.getElem?_eq_some_iff.mp h).1, ?_⟩
  rw [h]
  rfl
theorem lrel.has {sa : Nat → Nat} {z nL : Nat} {lc : List (Option Value)} {ls : Array Slot} (h : lrel sa z nL lc ls) : lv_has ls nL (lcL sa z lc) := by
  refine ⟨h.1, h.2.1, fun q hq => ?_⟩
  obtain ⟨i, -, hi⟩ := List.mem_filterMap.mp hq
  cases hc : lc[i]? with
  | none => rw [hc] at hi; cases hi
  | some o =>
    cases o with
    | none => rw [hc] at hi; cases hi
    | some v =>
      rw [hc] at hi
      cases hi
      exact h.2.2 i v hc
theorem lrel.store {sa : Nat → Nat} {z nL : Nat} {lc : List (Option Value)} {ls' : Array Slot} {i : Nat} {x : Value} {L : List (Nat × Value)} (hL : ∀ q ∈ lcL sa z lc, q ∈ L) (hok : okst lc i = true) (h : lv_has ls' nL ((i, mv sa z x) :: L.filter (fun q => !(q.1 == i) && !(q.1 + 1 == i && q.2.category == 2)))) : lrel sa z nL (lc.set i (some x)) ls' := by
  refine ⟨h.1, h.2.1, fun j v hj => ?_⟩
  by_cases e : j = i
  · subst e
    by_cases hl : j < lc.length
    · rw [List.getElem?_set_self hl] at hj
      cases hj
      exact h.2.2 (j, mv sa z x) List.mem_cons_self
    · rw [List.getElem?_eq_none (by rw [List.length_set]; omega)] at hj
      cases hj
  · rw [List.getElem?_set_ne (Ne.symm e)] at hj
    refine h.2.2 (j, mv sa z v) (List.mem_cons_of_mem _ (List.mem_filter.mpr ⟨hL _ (lcL_mem hj), ?_⟩))
    have e1 : (j == i) = false := by simpa using e
    simp only [e1, Bool.not_false, Bool.true_and, mv_cat]
    cases i with
    | zero => simp
    | succ n =>
      by_cases e2 : j = n
      · subst e2
        simp only [okst, hj] at hok
        simpa using hok
      · have e3 : (j + 1 == n + 1) = false := by simpa using e2
        rw [e3]; rfl
theorem lrel.store2 {sa : Nat → Nat} {z nL : Nat} {lc : List (Option Value)} {ls' : Array Slot} {i : Nat} {x : Value} {L : List (Nat × Value)} (hL : ∀ q ∈ lcL sa z lc, q ∈ L) (hok : okst lc i = true) (h : lv_has ls' nL ((i, mv sa z x) :: L.filter (fun q => !(q.1 == i) && (!(q.1 == i + 1) && !(q.1 + 1 == i && q.2.category == 2))))) : lrel sa z nL ((lc.set i (some x)).set (i + 1) none) ls' := by
  refine ⟨h.1, h.2.1, fun j v hj => ?_⟩
  by_cases e0 : j = i + 1
  · subst e0
    by_cases hl : i + 1 < lc.length
    · rw [List.getElem?_set_self (by rw [List.length_set]; exact hl)] at hj
      cases hj
    · rw [List.getElem?_eq_none (by rw [List.length_set, List.length_set]; omega)] at hj
      cases hj
  · rw [List.getElem?_set_ne (Ne.symm e0)] at hj
    by_cases e : j = i
    · subst e
      by_cases hl : j < lc.length
      · rw [List.getElem?_set_self hl] at hj
        cases hj
        exact h.2.2 (j, mv sa z x) List.mem_cons_self
      · rw [List.getElem?_eq_none (by rw [List.length_set]; omega)] at hj
        cases hj
    · rw [List.getElem?_set_ne (Ne.symm e)] at hj
      refine h.2.2 (j, mv sa z v) (List.mem_cons_of_mem _ (List.mem_filter.mpr ⟨hL _ (lcL_mem hj), ?_⟩))
      have e1 : (j == i) = false := by simpa using e
      have e2 : (j == i + 1) = false := by simpa using e0
      simp only [e1, e2, Bool.not_false, Bool.true_and, mv_cat]
      cases i with
      | zero => simp
      | succ n =>
        by_cases e3 : j = n
        · subst e3
          simp only [okst, hj] at hok
          simpa using hok
        · have e4 : (j + 1 == n + 1) = false := by simpa using e3
          rw [e4]; rfl
theorem J_istore_n {n : Fin 4} {i : Nat} {x : Int32} (hd : decode mi.2.1 pc = .ok (.istore_n n, 1)) (hi : (n : Nat) = i) (hn : i < mi.2.2.1) (hok : okst lc i = true) (k : J d mi (pc + 1) (lc.set i (some (.int x))) st w kb sb Q) : J d mi pc lc (.int x :: st) w kb sb Q := by
  intro p l e R s m args below meth c z sa D dA Z mc ms C h1 h2 h3 h4 h5 H locs cells slots ls hR hS hl h6 h7
  exact lv_istore_n C.1.1 C.1.2.1 hd hi hl.has hn rfl (fun ls' h' => k p l e R s m args below meth c z sa D dA Z mc ms C h1 h2 h3 h4 h5 H locs cells slots ls' hR hS (lrel.store (x := .int x) (fun _ h => h) hok h') h6 h7)
theorem J_istore {i : Nat} {x : Int32} (hd : decode mi.2.1 pc = .ok (.istore i, 2)) (hn : i < mi.2.2.1) (hok : okst lc i = true) (k : J d mi (pc + 2) (lc.set i (some (.int x))) st w kb sb Q) : J d mi pc lc (.int x :: st) w kb sb Q := by
  intro p l e R s m args below meth c z sa D dA Z mc ms C h1 h2 h3 h4 h5 H locs cells slots ls hR hS hl h6 h7
  exact lv_istore C.1.1 C.1.2.1 hd hl.has hn rfl (fun ls' h' => k p l e R s m args below meth c z sa D dA Z mc ms C h1 h2 h3 h4 h5 H locs cells slots ls' hR hS (lrel.store (x := .int x) (fun _ h => h) hok h') h6 h7)
theorem J_astore_n {n : Fin 4} {i : Nat} {x : Nat} (hd : decode mi.2.1 pc = .ok (.astore_n n, 1)) (hi : (n : Nat) = i) (hn : i < mi.2.2.1) (hok : okst lc i = true) (k : J d mi (pc + 1) (lc.set i (some (.ref x))) st w kb sb Q) : J d mi pc lc (.ref x :: st) w kb sb Q := by
  intro p l e R s m args below meth c z sa D dA Z mc ms C h1 h2 h3 h4 h5 H locs cells slots ls hR hS hl h6 h7
  exact lv_astore_n C.1.1 C.1.2.1 hd hi hl.has hn rfl (fun ls' h' => k p l e R s m args below meth c z sa D dA Z mc ms C h1 h2 h3 h4 h5 H locs cells slots ls' hR hS (lrel.store (x := .ref x) (fun _ h => h) hok h') h6 h7)
theorem J_astore {i : Nat} {x : Nat} (hd : decode mi.2.1 pc = .ok (.astore i, 2)) (hn : i < mi.2.2.1) (hok : okst lc i = true) (k : J d mi (pc + 2) (lc.set i (some (.ref x))) st w kb sb Q) : J d mi pc lc (.ref x :: st) w kb sb Q := by
  intro p l e R s m args below meth c z sa D dA Z mc ms C h1 h2 h3 h4 h5 H locs cells slots ls hR hS hl h6 h7
  exact lv_astore C.1.1 C.1.2.1 hd hl.has hn rfl (fun ls' h' => k p l e R s m args below meth c z sa D dA Z mc ms C h1 h2 h3 h4 h5 H locs cells slots ls' hR hS (lrel.store (x := .ref x) (fun _ h => h) hok h') h6 h7)
theorem J_fstore {i : Nat} {x : UInt32} (hd : decode mi.2.1 pc = .ok (.fstore i, 2)) (hn : i < mi.2.2.1) (hok : okst lc i = true) (k : J d mi (pc + 2) (lc.set i (some (.float x))) st w kb sb Q) : J d mi pc lc (.float x :: st) w kb sb Q := by
  intro p l e R s m args below meth c z sa D dA Z mc ms C h1 h2 h3 h4 h5 H locs cells slots ls hR hS hl h6 h7
  exact lv_fstore C.1.1 C.1.2.1 hd hl.has hn rfl (fun ls' h' => k p l e R s m args below meth c z sa D dA Z mc ms C h1 h2 h3 h4 h5 H locs cells slots ls' hR hS (lrel.store (x := .float x) (fun _ h => h) hok h') h6 h7)
theorem J_dstore {i : Nat} {x : UInt64} (hd : decode mi.2.1 pc = .ok (.dstore i, 2)) (hn : i + 1 < mi.2.2.1) (hok : okst lc i = true) (k : J d mi (pc + 2) ((lc.set i (some (.double x))).set (i + 1) none) st w kb sb Q) : J d mi pc lc (.double x :: st) w kb sb Q := by
  intro p l e R s m args below meth c z sa D dA Z mc ms C h1 h2 h3 h4 h5 H locs cells slots ls hR hS hl h6 h7
  exact lv_dstore C.1.1 C.1.2.1 hd hl.has hn rfl (fun ls' h' => k p l e R s m args below meth c z sa D dA Z mc ms C h1 h2 h3 h4 h5 H locs cells slots ls' hR hS (lrel.store2 (x := .double x) (fun _ h => h) hok h') h6 h7)
theorem J_iinc {i : Nat} {n : Int} {x v : Int32} (hd : decode mi.2.1 pc = .ok (.iinc i n, 3)) (hv : lc[i]? = some (some (.int x))) (he : x + Int32.ofInt n = v) (hn : i < mi.2.2.1) (hok : okst lc i = true) (k : J d mi (pc + 3) (lc.set i (some (.int v))) st w kb sb Q) : J d mi pc lc st w kb sb Q := by
  intro p l e R s m args below meth c z sa D dA Z mc ms C h1 h2 h3 h4 h5 H locs cells slots ls hR hS hl h6 h7
  have hh : lv_has ls mi.2.2.1 ((i, .int x) :: lcL sa z lc) := ⟨hl.1, hl.2.1, fun q hq => by
    rcases List.mem_cons.mp hq with rfl | hq
    · exact hl.2.2 i _ hv
    · exact hl.has.2.2 q hq⟩
  exact lv_iinc C.1.1 C.1.2.1 hd hh (k := 0) rfl he hn rfl (fun ls' h' => k p l e R s m args below meth c z sa D dA Z mc ms C h1 h2 h3 h4 h5 H locs cells slots ls' hR hS (lrel.store (x := .int v) (fun _ h => List.mem_cons_of_mem _ h) hok h') h6 h7)
theorem J_if_eq {x : Int32} {off : Int} {tgt : Nat} (hd : decode mi.2.1 pc = .ok (.ifCond .eq off, 3)) (ht : (pc : Int) + off = (tgt : Int)) (kt : x = 0 → J d mi tgt lc st w kb sb Q) (kf : ¬ x = 0 → J d mi (pc + 3) lc st w kb sb Q) : J d mi pc lc (.int x :: st) w kb sb Q := by
  intro p l e R s m args below meth c z sa D dA Z mc ms C h1 h2 h3 h4 h5 H locs cells slots ls hR hS hl h6 h7
  exact lv_if_eq C.1.1 C.1.2.1 hd ht (fun q => kt q p l e R s m args below meth c z sa D dA Z mc ms C h1 h2 h3 h4 h5 H locs cells slots ls hR hS hl h6 h7) (fun q => kf q p l e R s m args below meth c z sa D dA Z mc ms C h1 h2 h3 h4 h5 H locs cells slots ls hR hS hl h6 h7)
theorem J_if_ne {x : Int32} {off : Int} {tgt : Nat} (hd : decode mi.2.1 pc = .ok (.ifCond .ne off, 3)) (ht : (pc : Int) + off = (tgt : Int)) (kt : ¬ x = 0 → J d mi tgt lc st w kb sb Q) (kf : x = 0 → J d mi (pc + 3) lc st w kb sb Q) : J d mi pc lc (.int x :: st) w kb sb Q := by
  intro p l e R s m args below meth c z sa D dA Z mc ms C h1 h2 h3 h4 h5 H locs cells slots ls hR hS hl h6 h7
  exact lv_if_ne C.1.1 C.1.2.1 hd ht (fun q => kt q p l e R s m args below meth c z sa D dA Z mc ms C h1 h2 h3 h4 h5 H locs cells slots ls hR hS hl h6 h7) (fun q => kf q p l e R s m args below meth c z sa D dA Z mc ms C h1 h2 h3 h4 h5 H locs cells slots ls hR hS hl h6 h7)
theorem J_if_lt {x : Int32} {off : Int} {tgt : Nat} (hd : decode mi.2.1 pc = .ok (.ifCond .lt off, 3)) (ht : (pc : Int) + off = (tgt : Int)) (kt : x < 0 → J d mi tgt lc st w kb sb Q) (kf : ¬ x < 0 → J d mi (pc + 3) lc st w kb sb Q) : J d mi pc lc (.int x :: st) w kb sb Q := by
  intro p l e R s m args below meth c z sa D dA Z mc ms C h1 h2 h3 h4 h5 H locs cells slots ls hR hS hl h6 h7
  exact lv_if_lt C.1.1 C.1.2.1 hd ht (fun q => kt q p l e R s m args below meth c z sa D dA Z mc ms C h1 h2 h3 h4 h5 H locs cells slots ls hR hS hl h6 h7) (fun q => kf q p l e R s m args below meth c z sa D dA Z mc ms C h1 h2 h3 h4 h5 H locs cells slots ls hR hS hl h6 h7)
theorem J_if_ge {x : Int32} {off : Int} {tgt : Nat} (hd : decode mi.2.1 pc = .ok (.ifCond .ge off, 3)) (ht : (pc : Int) + off = (tgt : Int)) (kt : 0 ≤ x → J d mi tgt lc st w kb sb Q) (kf : ¬ 0 ≤ x → J d mi (pc + 3) lc st w kb sb Q) : J d mi pc lc (.int x :: st) w kb sb Q := by
  intro p l e R s m args below meth c z sa D dA Z mc ms C h1 h2 h3 h4 h5 H locs cells slots ls hR hS hl h6 h7
  exact lv_if_ge C.1.1 C.1.2.1 hd ht (fun q => kt q p l e R s m args below meth c z sa D dA Z mc ms C h1 h2 h3 h4 h5 H locs cells slots ls hR hS hl h6 h7) (fun q => kf q p l e R s m args below meth c z sa D dA Z mc ms C h1 h2 h3 h4 h5 H locs cells slots ls hR hS hl h6 h7)
theorem J_if_gt {x : Int32} {off : Int} {tgt : Nat} (hd : decode mi.2.1 pc = .ok (.ifCond .gt off, 3)) (ht : (pc : Int) + off = (tgt : Int)) (kt : 0 < x → J d mi tgt lc st w kb sb Q) (kf : ¬ 0 < x → J d mi (pc + 3) lc st w kb sb Q) : J d mi pc lc (.int x :: st) w kb sb Q := by
  intro p l e R s m args below meth c z sa D dA Z mc ms C h1 h2 h3 h4 h5 H locs cells slots ls hR hS hl h6 h7
  exact lv_if_gt C.1.1 C.1.2.1 hd ht (fun q => kt q p l e R s m args below meth c z sa D dA Z mc ms C h1 h2 h3 h4 h5 H locs cells slots ls hR hS hl h6 h7) (fun q => kf q p l e R s m args below meth c z sa D dA Z mc ms C h1 h2 h3 h4 h5 H locs cells slots ls hR hS hl h6 h7)
theorem J_if_le {x : Int32} {off : Int} {tgt : Nat} (hd : decode mi.2.1 pc = .ok (.ifCond .le off, 3)) (ht : (pc : Int) + off = (tgt : Int)) (kt : x ≤ 0 → J d mi tgt lc st w kb sb Q) (kf : ¬ x ≤ 0 → J d mi (pc + 3) lc st w kb sb Q) : J d mi pc lc (.int x :: st) w kb sb Q := by
  intro p l e R s m args below meth c z sa D dA Z mc ms C h1 h2 h3 h4 h5 H locs cells slots ls hR hS hl h6 h7
  exact lv_if_le C.1.1 C.1.2.1 hd ht (fun q => kt q p l e R s m args below meth c z sa D dA Z mc ms C h1 h2 h3 h4 h5 H locs cells slots ls hR hS hl h6 h7) (fun q => kf q p l e R s m args below meth c z sa D dA Z mc ms C h1 h2 h3 h4 h5 H locs cells slots ls hR hS hl h6 h7)
theorem J_icmp_eq {x y : Int32} {off : Int} {tgt : Nat} (hd : decode mi.2.1 pc = .ok (.if_icmp .eq off, 3)) (ht : (pc : Int) + off = (tgt : Int)) (kt : x = y → J d mi tgt lc st w kb sb Q) (kf : ¬ x = y → J d mi (pc + 3) lc st w kb sb Q) : J d mi pc lc (.int y :: .int x :: st) w kb sb Q := by
  intro p l e R s m args below meth c z sa D dA Z mc ms C h1 h2 h3 h4 h5 H locs cells slots ls hR hS hl h6 h7
  exact lv_icmp_eq C.1.1 C.1.2.1 hd ht (fun q => kt q p l e R s m args below meth c z sa D dA Z mc ms C h1 h2 h3 h4 h5 H locs cells slots ls hR hS hl h6 h7) (fun q => kf q p l e R s m args below meth c z sa D dA Z mc ms C h1 h2 h3 h4 h5 H locs cells slots ls hR hS hl h6 h7)
theorem J_icmp_ne {x y : Int32} {off : Int} {tgt : Nat} (hd : decode mi.2.1 pc = .ok (.if_icmp .ne off, 3)) (ht : (pc : Int) + off = (tgt : Int)) (kt : ¬ x = y → J d mi tgt lc st w kb sb Q) (kf : x = y → J d mi (pc + 3) lc st w kb sb Q) : J d mi pc lc (.int y :: .int x :: st) w kb sb Q := by
  intro p l e R s m args below meth c z sa D dA Z mc ms C h1 h2 h3 h4 h5 H locs cells slots ls hR hS hl h6 h7
  exact lv_icmp_ne C.1.1 C.1.2.1 hd ht (fun q => kt q p l e R s m args below meth c z sa D dA Z mc ms C h1 h2 h3 h4 h5 H locs cells slots ls hR hS hl h6 h7) (fun q => kf q p l e R s m args below meth c z sa D dA Z mc ms C h1 h2 h3 h4 h5 H locs cells slots ls hR hS hl h6 h7)
theorem J_icmp_lt {x y : Int32} {off : Int} {tgt : Nat} (hd : decode mi.2.1 pc = .ok (.if_icmp .lt off, 3)) (ht : (pc : Int) + off = (tgt : Int)) (kt : x < y → J d mi tgt lc st w kb sb Q) (kf : ¬ x < y → J d mi (pc + 3) lc st w kb sb Q) : J d mi pc lc (.int y :: .int x :: st) w kb sb Q := by
  intro p l e R s m args below meth c z sa D dA Z mc ms C h1 h2 h3 h4 h5 H locs cells slots ls hR hS hl h6 h7
  exact lv_icmp_lt C.1.1 C.1.2.1 hd ht (fun q => kt q p l e R s m args below meth c z sa D dA Z mc ms C h1 h2 h3 h4 h5 H locs cells slots ls hR hS hl h6 h7) (fun q => kf q p l e R s m args below meth c z sa D dA Z mc ms C h1 h2 h3 h4 h5 H locs cells slots ls hR hS hl h6 h7)
theorem J_icmp_ge {x y : Int32} {off : Int} {tgt : Nat} (hd : decode mi.2.1 pc = .ok (.if_icmp .ge off, 3)) (ht : (pc : Int) + off = (tgt : Int)) (kt : y ≤ x → J d mi tgt lc st w kb sb Q) (kf : ¬ y ≤ x → J d mi (pc + 3) lc st w kb sb Q) : J d mi pc lc (.int y :: .int x :: st) w kb sb Q := by
  intro p l e R s m args below meth c z sa D dA Z mc ms C h1 h2 h3 h4 h5 H locs cells slots ls hR hS hl h6 h7
  exact lv_icmp_ge C.1.1 C.1.2.1 hd ht (fun q => kt q p l e R s m args below meth c z sa D dA Z mc ms C h1 h2 h3 h4 h5 H locs cells slots ls hR hS hl h6 h7) (fun q => kf q p l e R s m args below meth c z sa D dA Z mc ms C h1 h2 h3 h4 h5 H locs cells slots ls hR hS hl h6 h7)
theorem J_icmp_gt {x y : Int32} {off : Int} {tgt : Nat} (hd : decode mi.2.1 pc = .ok (.if_icmp .gt off, 3)) (ht : (pc : Int) + off = (tgt : Int)) (kt : y < x → J d mi tgt lc st w kb sb Q) (kf : ¬ y < x → J d mi (pc + 3) lc st w kb sb Q) : J d mi pc lc (.int y :: .int x :: st) w kb sb Q := by
  intro p l e R s m args below meth c z sa D dA Z mc ms C h1 h2 h3 h4 h5 H locs cells slots ls hR hS hl h6 h7
  exact lv_icmp_gt C.1.1 C.1.2.1 hd ht (fun q => kt q p l e R s m args below meth c z sa D dA Z mc ms C h1 h2 h3 h4 h5 H locs cells slots ls hR hS hl h6 h7) (fun q => kf q p l e R s m args below meth c z sa D dA Z mc ms C h1 h2 h3 h4 h5 H locs cells slots ls hR hS hl h6 h7)
theorem J_icmp_le {x y : Int32} {off : Int} {tgt : Nat} (hd : decode mi.2.1 pc = .ok (.if_icmp .le off, 3)) (ht : (pc : Int) + off = (tgt : Int)) (kt : x ≤ y → J d mi tgt lc st w kb sb Q) (kf : ¬ x ≤ y → J d mi (pc + 3) lc st w kb sb Q) : J d mi pc lc (.int y :: .int x :: st) w kb sb Q := by
  intro p l e R s m args below meth c z sa D dA Z mc ms C h1 h2 h3 h4 h5 H locs cells slots ls hR hS hl h6 h7
  exact lv_icmp_le C.1.1 C.1.2.1 hd ht (fun q => kt q p l e R s m args below meth c z sa D dA Z mc ms C h1 h2 h3 h4 h5 H locs cells slots ls hR hS hl h6 h7) (fun q => kf q p l e R s m args below meth c z sa D dA Z mc ms C h1 h2 h3 h4 h5 H locs cells slots ls hR hS hl h6 h7)
theorem J_goto {off : Int} {tgt : Nat} (hd : decode mi.2.1 pc = .ok (.goto off, 3)) (ht : (pc : Int) + off = (tgt : Int)) (k : J d mi tgt lc st w kb sb Q) : J d mi pc lc st w kb sb Q := by
  intro p l e R s m args below meth c z sa D dA Z mc ms C h1 h2 h3 h4 h5 H locs cells slots ls hR hS hl h6 h7
  exact lv_goto C.1.1 C.1.2.1 hd ht (k p l e R s m args below meth c z sa D dA Z mc ms C h1 h2 h3 h4 h5 H locs cells slots ls hR hS hl h6 h7)
theorem J_tableIn {dflt lo hi : Int} {offs : Array Int} {len : Nat} {x : Int32} {off : Int} {tgt : Nat} (hd : decode mi.2.1 pc = .ok (.tableswitch dflt lo hi offs, len)) (g1 : ¬ x.toInt < lo) (g2 : ¬ hi < x.toInt) (ho : offs[(x.toInt - lo).toNat]? = some off) (ht : (pc : Int) + off = (tgt : Int)) (k : J d mi tgt lc st w kb sb Q) : J d mi pc lc (.int x :: st) w kb sb Q := by
  intro p l e R s m args below meth c z sa D dA Z mc ms C h1 h2 h3 h4 h5 H locs cells slots ls hR hS hl h6 h7
  exact lv_tableIn C.1.1 C.1.2.1 hd g1 g2 ho ht (k p l e R s m args below meth c z sa D dA Z mc ms C h1 h2 h3 h4 h5 H locs cells slots ls hR hS hl h6 h7)
theorem J_tableOut {dflt lo hi : Int} {offs : Array Int} {len : Nat} {x : Int32} {tgt : Nat} (hd : decode mi.2.1 pc = .ok (.tableswitch dflt lo hi offs, len)) (g : x.toInt < lo ∨ hi < x.toInt) (ht : (pc : Int) + dflt = (tgt : Int)) (k : J d mi tgt lc st w kb sb Q) : J d mi pc lc (.int x :: st) w kb sb Q := by
  intro p l e R s m args below meth c z sa D dA Z mc ms C h1 h2 h3 h4 h5 H locs cells slots ls hR hS hl h6 h7
  exact lv_tableOut C.1.1 C.1.2.1 hd g ht (k p l e R s m args below meth c z sa D dA Z mc ms C h1 h2 h3 h4 h5 H locs cells slots ls hR hS hl h6 h7)
theorem J.widen {kb' sb' : Nat} (h1 : kb' ≤ kb) (h2 : sb' ≤ sb) (k : J d mi pc lc st w kb' sb' Q) : J d mi pc lc st w kb sb Q := by
  intro p l e R s m args below meth c z sa D dA Z mc ms C g1 g2 h3 h4 h5 H locs cells slots ls hR hS hl h6 h7
  exact k p l e R s m args below meth c z sa D dA Z mc ms C g1 g2 h3 h4 h5 H locs cells slots ls hR hS hl (by omega) (by omega)
theorem J_ret {v : Option Value} {i : Instr} (hd : decode mi.2.1 pc = .ok (i, 1)) (hv : retI mi.2.2.2.1 i v) (hq : Q (.inl v) w) : J d mi pc lc v.toList w kb sb Q := by
  intro p l e R s m args below meth c z sa D dA Z mc ms C h1 h2 h3 h4 h5 H locs cells slots ls hR hS hl h6 h7
  exact W.widen (by omega) (by omega) (h1 v w H locs pc ls i hq hR hS hv (by rw [C.1.2.1]; exact hd))
theorem J_return (hd : decode mi.2.1 pc = .ok (.return_, 1)) (hr : mi.2.2.2.1 = none) (hq : Q (.inl none) w) : J d mi pc lc [] w kb sb Q := J_ret (v := none) hd (Or.inl ⟨rfl, rfl, hr⟩) hq
theorem J_ireturn {x : Int32} {ty : FieldType} (hd : decode mi.2.1 pc = .ok (.ireturn, 1)) (hr : mi.2.2.2.1 = some ty) (hn : narrow ty (.int x) = .int x) (hq : Q (.inl (some (.int x))) w) : J d mi pc lc [.int x] w kb sb Q := J_ret (v := some (.int x)) hd (Or.inr (Or.inl ⟨rfl, x, ty, rfl, hr, hn⟩)) hq
theorem J_dreturn {x : UInt64} (hd : decode mi.2.1 pc = .ok (.dreturn, 1)) (hr : mi.2.2.2.1 = some .double) (hq : Q (.inl (some (.double x))) w) : J d mi pc lc [.double x] w kb sb Q := J_ret (v := some (.double x)) hd (Or.inr (Or.inr (Or.inl ⟨rfl, x, rfl, hr⟩))) hq
theorem J_freturn {x : UInt32} (hd : decode mi.2.1 pc = .ok (.freturn, 1)) (hr : mi.2.2.2.1 = some .float) (hq : Q (.inl (some (.float x))) w) : J d mi pc lc [.float x] w kb sb Q := J_ret (v := some (.float x)) hd (Or.inr (Or.inr (Or.inr (Or.inl ⟨rfl, x, rfl, hr⟩)))) hq
theorem J_lreturn {x : Int64} (hd : decode mi.2.1 pc = .ok (.lreturn, 1)) (hr : mi.2.2.2.1 = some .long) (hq : Q (.inl (some (.long x))) w) : J d mi pc lc [.long x] w kb sb Q := J_ret (v := some (.long x)) hd (Or.inr (Or.inr (Or.inr (Or.inr (Or.inl ⟨rfl, x, rfl, hr⟩))))) hq
theorem J_areturn {a : Nat} {ty : FieldType} (hd : decode mi.2.1 pc = .ok (.areturn, 1)) (hr : mi.2.2.2.1 = some ty) (hty : (∃ n, ty = .object n) ∨ ∃ t, ty = .array t) (hq : Q (.inl (some (.ref a))) w) : J d mi pc lc [.ref a] w kb sb Q := J_ret (v := some (.ref a)) hd (Or.inr (Or.inr (Or.inr (Or.inr (Or.inr ⟨rfl, a, ty, rfl, hr, hty⟩))))) hq
theorem J_throw {E : String} (ht : ThrI mi pc E) (hk : 1 ≤ kb) (hs : 6 ≤ sb) (hq : Q (.inr E) (stW w)) : J d mi pc lc [] w kb sb Q := by
  intro p l e R s m args below meth c z sa D dA Z mc ms C h1 h2 h3 h4 h5 H locs cells slots ls hR hS hl h6 h7
  exact h3 E w H locs cells slots pc ls hq hR hS hl.1 ht (by omega) (by omega)
theorem JX_out {E : String} (hc : ∀ x ∈ tableOf mi.2.2.2.2, covers x pc = false) (hq : Q (.inr E) w) : JX d mi pc lc w kb sb Q E := by
  intro p l e R s m args below meth c z sa D dA Z mc ms C h1 h2 h3 h4 h5 H locs cells slots ls rest q ce hR hS hl h6 h7 g1 g2 g3
  exact vx_widen (by omega) (by omega) (h2 E w H locs pc ls rest q ce hq hR hS hc g1 g2 g3)
end
end JLOGIC

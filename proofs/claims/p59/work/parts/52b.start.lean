/-! THE LAW: what holds at its start -/
section JSTART
theorem va_OFof {args : Array Value} {s : State} {t : Term} {o n d : String} {a : Nat} {v : Value} {A : Nat → Prop} (ht : t.eval args s none [] s = some (.ref a)) (hv : (Term.field t o n d).eval args s none [] s = some v) (hA : ∀ a : Nat, a < s.heap.size → ¬ A a) : va_OF o n d v a A s s.heap := by
  cases hi : s.fieldFound? o n d with
  | none => simp [Term.eval, ht, State.fieldOf?, State.fieldNamed?, hi] at hv
  | some x =>
    obtain ⟨c, k, i, f⟩ := x
    obtain ⟨h1, cell, h2, h3, h4, h5, h6⟩ := Term.field_spec hi ht hv
    exact ⟨c, k, i, f, cell, hi, h1, h2, h3, h6, hA _ (Array.getElem?_eq_some_iff.mp h2).1⟩
theorem Az_no (s : State) : ∀ a : Nat, a < s.heap.size → ¬ Az s.heap.size a := fun a h q => Nat.not_le.mpr h q
theorem ex_ref {args : Array Value} {s : State} {t : Term} {nm : String} (h : (Cond.exactly t nm).before args s = true) : ∃ a : Nat, t.eval args s none [] s = some (.ref a) ∧ va_O nm a (Az s.heap.size) s s.heap := by
  obtain ⟨a, c, cell, k, h1, -⟩ := Cond.exactly_spec (args := args) (first := s) (o := none) (s := s) (idx := []) h
  exact ⟨a, h1, va_Oof h h1 (Az_no s)⟩
theorem st_of {args : Array Value} {s : State} {own : String} {k i N : Nat} (h1 : (Cond.exactly (.string own k) "java/lang/String").before args s = true) (h2 : (Cond.eq (.field (.string own k) "java/lang/String" "coder" "B") (.int 0)).before args s = true) (h3 : (Cond.arrayOf (.field (.string own k) "java/lang/String" "value" "[B") .byte).before args s = true) (h4 : (Cond.eq (.length (.field (.string own k) "java/lang/String" "value" "[B")) (.int (Int32.ofNat N))).before args s = true) (hN : N < 2 ^ 31)
    (h5 : ∀ j, j < N → (Cond.eq (.elem (.field (.string own k) "java/lang/String" "value" "[B") (.int (Int32.ofNat j))) (.int ((txS i).getD j 0))).before args s = true) :
    ∃ a t : Nat, (Term.string own k).eval args s none [] s = some (.ref a) ∧ va_O "java/lang/String" a (Az s.heap.size) s s.heap ∧ va_OF "java/lang/String" "coder" "B" (.int 0) a (Az s.heap.size) s s.heap ∧ va_OF "java/lang/String" "value" "[B" (.ref t) a (Az s.heap.size) s s.heap ∧ va_T .byte t N (fun j => .int ((txS i).getD j 0)) (Az s.heap.size) s s.heap := by
  obtain ⟨a, ha, hO⟩ := ex_ref h1
  obtain ⟨t, ht, hT⟩ := va_Tof (f := fun j => .int ((txS i).getD j 0)) hN h3 (Cond.eq_int h4 rfl) (fun j hj => Cond.eq_int (h5 j hj) rfl) (Az_no s)
  exact ⟨a, t, ha, hO, va_OFof ha (Cond.eq_int h2 rfl) (Az_no s), va_OFof ha ht (Az_no s), hT⟩
theorem en_of {args : Array Value} {s : State} {nm : String} {k j st : Nat} (h1 : (Cond.exactly (.static "SofaRailway$Command" nm "LSofaRailway$Command;") "SofaRailway$Command").before args s = true) (h2 : (Cond.eq (.field (.static "SofaRailway$Command" nm "LSofaRailway$Command;") "java/lang/Enum" "ordinal" "I") (.int (nI j))).before args s = true) (h3 : (Cond.eq (.field (.static "SofaRailway$Command" nm "LSofaRailway$Command;") "SofaRailway$Command" "form" "Ljava/lang/String;") (.string "SofaRailway$Command" k)).before args s = true) (hs : (Term.string "SofaRailway$Command" k).eval args s none [] s = some (.ref st)) :
    ∃ a : Nat, (Term.static "SofaRailway$Command" nm "LSofaRailway$Command;").eval args s none [] s = some (.ref a) ∧ va_O "SofaRailway$Command" a (Az s.heap.size) s s.heap ∧ va_OF "java/lang/Enum" "ordinal" "I" (.int (nI j)) a (Az s.heap.size) s s.heap ∧ va_OF "SofaRailway$Command" "form" "Ljava/lang/String;" (.ref st) a (Az s.heap.size) s s.heap := by
  obtain ⟨a, ha, hO⟩ := ex_ref h1
  exact ⟨a, ha, hO, va_OFof ha (Cond.eq_int h2 rfl) (Az_no s), va_OFof ha (Cond.eq_refs h3 hs rfl) (Az_no s)⟩
theorem st_0 {args : Array Value} {s : State} (hn : ∀ c ∈ flatC (Jvm.Cond.and given_1 narrow_1), c.before args s = true) : ∃ a t : Nat, (Term.string "SofaRailway$Command" 55).eval args s none [] s = some (.ref a) ∧ va_O "java/lang/String" a (Az s.heap.size) s s.heap ∧ va_OF "java/lang/String" "coder" "B" (.int 0) a (Az s.heap.size) s s.heap ∧ va_OF "java/lang/String" "value" "[B" (.ref t) a (Az s.heap.size) s s.heap ∧ va_T .byte t 7 (fun j => .int ((txS 0).getD j 0)) (Az s.heap.size) s s.heap := by
  refine st_of (hn _ nw_865) (hn _ nw_866) (hn _ nw_867) (hn _ nw_868) (by decide) (fun j hj => ?_)
  have h : j = 0 ∨ j = 1 ∨ j = 2 ∨ j = 3 ∨ j = 4 ∨ j = 5 ∨ j = 6 := by omega
  rcases h with rfl | rfl | rfl | rfl | rfl | rfl | rfl
  · exact (hn _ nw_869)
  · exact (hn _ nw_870)
  · exact (hn _ nw_871)
  · exact (hn _ nw_872)
  · exact (hn _ nw_873)
  · exact (hn _ nw_874)
  · exact (hn _ nw_875)
theorem st_1 {args : Array Value} {s : State} (hn : ∀ c ∈ flatC (Jvm.Cond.and given_1 narrow_1), c.before args s = true) : ∃ a t : Nat, (Term.string "SofaRailway$Command" 61).eval args s none [] s = some (.ref a) ∧ va_O "java/lang/String" a (Az s.heap.size) s s.heap ∧ va_OF "java/lang/String" "coder" "B" (.int 0) a (Az s.heap.size) s s.heap ∧ va_OF "java/lang/String" "value" "[B" (.ref t) a (Az s.heap.size) s s.heap ∧ va_T .byte t 9 (fun j => .int ((txS 1).getD j 0)) (Az s.heap.size) s s.heap := by
  refine st_of (hn _ nw_876) (hn _ nw_877) (hn _ nw_878) (hn _ nw_879) (by decide) (fun j hj => ?_)
  have h : j = 0 ∨ j = 1 ∨ j = 2 ∨ j = 3 ∨ j = 4 ∨ j = 5 ∨ j = 6 ∨ j = 7 ∨ j = 8 := by omega
  rcases h with rfl | rfl | rfl | rfl | rfl | rfl | rfl | rfl | rfl
  · exact (hn _ nw_880)
  · exact (hn _ nw_881)
  · exact (hn _ nw_882)
  · exact (hn _ nw_883)
  · exact (hn _ nw_884)
  · exact (hn _ nw_885)
  · exact (hn _ nw_886)
  · exact (hn _ nw_887)
  · exact (hn _ nw_888)
theorem st_2 {args : Array Value} {s : State} (hn : ∀ c ∈ flatC (Jvm.Cond.and given_1 narrow_1), c.before args s = true) : ∃ a t : Nat, (Term.string "SofaRailway$Command" 64).eval args s none [] s = some (.ref a) ∧ va_O "java/lang/String" a (Az s.heap.size) s s.heap ∧ va_OF "java/lang/String" "coder" "B" (.int 0) a (Az s.heap.size) s s.heap ∧ va_OF "java/lang/String" "value" "[B" (.ref t) a (Az s.heap.size) s s.heap ∧ va_T .byte t 8 (fun j => .int ((txS 2).getD j 0)) (Az s.heap.size) s s.heap := by
  refine st_of (hn _ nw_889) (hn _ nw_890) (hn _ nw_891) (hn _ nw_892) (by decide) (fun j hj => ?_)
  have h : j = 0 ∨ j = 1 ∨ j = 2 ∨ j = 3 ∨ j = 4 ∨ j = 5 ∨ j = 6 ∨ j = 7 := by omega
  rcases h with rfl | rfl | rfl | rfl | rfl | rfl | rfl | rfl
  · exact (hn _ nw_893)
  · exact (hn _ nw_894)
  · exact (hn _ nw_895)
  · exact (hn _ nw_896)
  · exact (hn _ nw_897)
  · exact (hn _ nw_898)
  · exact (hn _ nw_899)
  · exact (hn _ nw_900)
theorem st_3 {args : Array Value} {s : State} (hn : ∀ c ∈ flatC (Jvm.Cond.and given_1 narrow_1), c.before args s = true) : ∃ a t : Nat, (Term.string "SofaRailway$Command" 67).eval args s none [] s = some (.ref a) ∧ va_O "java/lang/String" a (Az s.heap.size) s s.heap ∧ va_OF "java/lang/String" "coder" "B" (.int 0) a (Az s.heap.size) s s.heap ∧ va_OF "java/lang/String" "value" "[B" (.ref t) a (Az s.heap.size) s s.heap ∧ va_T .byte t 9 (fun j => .int ((txS 3).getD j 0)) (Az s.heap.size) s s.heap := by
  refine st_of (hn _ nw_901) (hn _ nw_902) (hn _ nw_903) (hn _ nw_904) (by decide) (fun j hj => ?_)
  have h : j = 0 ∨ j = 1 ∨ j = 2 ∨ j = 3 ∨ j = 4 ∨ j = 5 ∨ j = 6 ∨ j = 7 ∨ j = 8 := by omega
  rcases h with rfl | rfl | rfl | rfl | rfl | rfl | rfl | rfl | rfl
  · exact (hn _ nw_905)
  · exact (hn _ nw_906)
  · exact (hn _ nw_907)
  · exact (hn _ nw_908)
  · exact (hn _ nw_909)
  · exact (hn _ nw_910)
  · exact (hn _ nw_911)
  · exact (hn _ nw_912)
  · exact (hn _ nw_913)
theorem st_4 {args : Array Value} {s : State} (hn : ∀ c ∈ flatC (Jvm.Cond.and given_1 narrow_1), c.before args s = true) : ∃ a t : Nat, (Term.string "SofaRailway$Command" 70).eval args s none [] s = some (.ref a) ∧ va_O "java/lang/String" a (Az s.heap.size) s s.heap ∧ va_OF "java/lang/String" "coder" "B" (.int 0) a (Az s.heap.size) s s.heap ∧ va_OF "java/lang/String" "value" "[B" (.ref t) a (Az s.heap.size) s s.heap ∧ va_T .byte t 8 (fun j => .int ((txS 4).getD j 0)) (Az s.heap.size) s s.heap := by
  refine st_of (hn _ nw_914) (hn _ nw_915) (hn _ nw_916) (hn _ nw_917) (by decide) (fun j hj => ?_)
  have h : j = 0 ∨ j = 1 ∨ j = 2 ∨ j = 3 ∨ j = 4 ∨ j = 5 ∨ j = 6 ∨ j = 7 := by omega
  rcases h with rfl | rfl | rfl | rfl | rfl | rfl | rfl | rfl
  · exact (hn _ nw_918)
  · exact (hn _ nw_919)
  · exact (hn _ nw_920)
  · exact (hn _ nw_921)
  · exact (hn _ nw_922)
  · exact (hn _ nw_923)
  · exact (hn _ nw_924)
  · exact (hn _ nw_925)
theorem st_5 {args : Array Value} {s : State} (hn : ∀ c ∈ flatC (Jvm.Cond.and given_1 narrow_1), c.before args s = true) : ∃ a t : Nat, (Term.string "SofaRailway$Command" 73).eval args s none [] s = some (.ref a) ∧ va_O "java/lang/String" a (Az s.heap.size) s s.heap ∧ va_OF "java/lang/String" "coder" "B" (.int 0) a (Az s.heap.size) s s.heap ∧ va_OF "java/lang/String" "value" "[B" (.ref t) a (Az s.heap.size) s s.heap ∧ va_T .byte t 5 (fun j => .int ((txS 5).getD j 0)) (Az s.heap.size) s s.heap := by
  refine st_of (hn _ nw_926) (hn _ nw_927) (hn _ nw_928) (hn _ nw_929) (by decide) (fun j hj => ?_)
  have h : j = 0 ∨ j = 1 ∨ j = 2 ∨ j = 3 ∨ j = 4 := by omega
  rcases h with rfl | rfl | rfl | rfl | rfl
  · exact (hn _ nw_930)
  · exact (hn _ nw_931)
  · exact (hn _ nw_932)
  · exact (hn _ nw_933)
  · exact (hn _ nw_934)
theorem st_6 {args : Array Value} {s : State} (hn : ∀ c ∈ flatC (Jvm.Cond.and given_1 narrow_1), c.before args s = true) : ∃ a t : Nat, (Term.string "SofaRailway$Command" 76).eval args s none [] s = some (.ref a) ∧ va_O "java/lang/String" a (Az s.heap.size) s s.heap ∧ va_OF "java/lang/String" "coder" "B" (.int 0) a (Az s.heap.size) s s.heap ∧ va_OF "java/lang/String" "value" "[B" (.ref t) a (Az s.heap.size) s s.heap ∧ va_T .byte t 8 (fun j => .int ((txS 6).getD j 0)) (Az s.heap.size) s s.heap := by
  refine st_of (hn _ nw_935) (hn _ nw_936) (hn _ nw_937) (hn _ nw_938) (by decide) (fun j hj => ?_)
  have h : j = 0 ∨ j = 1 ∨ j = 2 ∨ j = 3 ∨ j = 4 ∨ j = 5 ∨ j = 6 ∨ j = 7 := by omega
  rcases h with rfl | rfl | rfl | rfl | rfl | rfl | rfl | rfl
  · exact (hn _ nw_939)
  · exact (hn _ nw_940)
  · exact (hn _ nw_941)
  · exact (hn _ nw_942)
  · exact (hn _ nw_943)
  · exact (hn _ nw_944)
  · exact (hn _ nw_945)
  · exact (hn _ nw_946)
theorem st_7 {args : Array Value} {s : State} (hn : ∀ c ∈ flatC (Jvm.Cond.and given_1 narrow_1), c.before args s = true) : ∃ a t : Nat, (Term.string "SofaRailway$Command" 79).eval args s none [] s = some (.ref a) ∧ va_O "java/lang/String" a (Az s.heap.size) s s.heap ∧ va_OF "java/lang/String" "coder" "B" (.int 0) a (Az s.heap.size) s s.heap ∧ va_OF "java/lang/String" "value" "[B" (.ref t) a (Az s.heap.size) s s.heap ∧ va_T .byte t 8 (fun j => .int ((txS 7).getD j 0)) (Az s.heap.size) s s.heap := by
  refine st_of (hn _ nw_947) (hn _ nw_948) (hn _ nw_949) (hn _ nw_950) (by decide) (fun j hj => ?_)
  have h : j = 0 ∨ j = 1 ∨ j = 2 ∨ j = 3 ∨ j = 4 ∨ j = 5 ∨ j = 6 ∨ j = 7 := by omega
  rcases h with rfl | rfl | rfl | rfl | rfl | rfl | rfl | rfl
  · exact (hn _ nw_951)
  · exact (hn _ nw_952)
  · exact (hn _ nw_953)
  · exact (hn _ nw_954)
  · exact (hn _ nw_955)
  · exact (hn _ nw_956)
  · exact (hn _ nw_957)
  · exact (hn _ nw_958)
theorem st_8 {args : Array Value} {s : State} (hn : ∀ c ∈ flatC (Jvm.Cond.and given_1 narrow_1), c.before args s = true) : ∃ a t : Nat, (Term.string "SofaRailway$Command" 82).eval args s none [] s = some (.ref a) ∧ va_O "java/lang/String" a (Az s.heap.size) s s.heap ∧ va_OF "java/lang/String" "coder" "B" (.int 0) a (Az s.heap.size) s s.heap ∧ va_OF "java/lang/String" "value" "[B" (.ref t) a (Az s.heap.size) s s.heap ∧ va_T .byte t 6 (fun j => .int ((txS 8).getD j 0)) (Az s.heap.size) s s.heap := by
  refine st_of (hn _ nw_959) (hn _ nw_960) (hn _ nw_961) (hn _ nw_962) (by decide) (fun j hj => ?_)
  have h : j = 0 ∨ j = 1 ∨ j = 2 ∨ j = 3 ∨ j = 4 ∨ j = 5 := by omega
  rcases h with rfl | rfl | rfl | rfl | rfl | rfl
  · exact (hn _ nw_963)
  · exact (hn _ nw_964)
  · exact (hn _ nw_965)
  · exact (hn _ nw_966)
  · exact (hn _ nw_967)
  · exact (hn _ nw_968)
theorem st_9 {args : Array Value} {s : State} (hn : ∀ c ∈ flatC (Jvm.Cond.and given_1 narrow_1), c.before args s = true) : ∃ a t : Nat, (Term.string "SofaRailwayLaw" 258).eval args s none [] s = some (.ref a) ∧ va_O "java/lang/String" a (Az s.heap.size) s s.heap ∧ va_OF "java/lang/String" "coder" "B" (.int 0) a (Az s.heap.size) s s.heap ∧ va_OF "java/lang/String" "value" "[B" (.ref t) a (Az s.heap.size) s s.heap ∧ va_T .byte t 5 (fun j => .int ((txS 9).getD j 0)) (Az s.heap.size) s s.heap := by
  refine st_of (hn _ nw_611) (hn _ nw_612) (hn _ nw_613) (hn _ nw_614) (by decide) (fun j hj => ?_)
  have h : j = 0 ∨ j = 1 ∨ j = 2 ∨ j = 3 ∨ j = 4 := by omega
  rcases h with rfl | rfl | rfl | rfl | rfl
  · exact (hn _ nw_615)
  · exact (hn _ nw_616)
  · exact (hn _ nw_617)
  · exact (hn _ nw_618)
  · exact (hn _ nw_619)
theorem st_10 {args : Array Value} {s : State} (hn : ∀ c ∈ flatC (Jvm.Cond.and given_1 narrow_1), c.before args s = true) : ∃ a t : Nat, (Term.string "SofaRailwayLaw" 267).eval args s none [] s = some (.ref a) ∧ va_O "java/lang/String" a (Az s.heap.size) s s.heap ∧ va_OF "java/lang/String" "coder" "B" (.int 0) a (Az s.heap.size) s s.heap ∧ va_OF "java/lang/String" "value" "[B" (.ref t) a (Az s.heap.size) s s.heap ∧ va_T .byte t 6 (fun j => .int ((txS 10).getD j 0)) (Az s.heap.size) s s.heap := by
  refine st_of (hn _ nw_620) (hn _ nw_621) (hn _ nw_622) (hn _ nw_623) (by decide) (fun j hj => ?_)
  have h : j = 0 ∨ j = 1 ∨ j = 2 ∨ j = 3 ∨ j = 4 ∨ j = 5 := by omega
  rcases h with rfl | rfl | rfl | rfl | rfl | rfl
  · exact (hn _ nw_624)
  · exact (hn _ nw_625)
  · exact (hn _ nw_626)
  · exact (hn _ nw_627)
  · exact (hn _ nw_628)
  · exact (hn _ nw_629)
theorem st_11 {args : Array Value} {s : State} (hn : ∀ c ∈ flatC (Jvm.Cond.and given_1 narrow_1), c.before args s = true) : ∃ a t : Nat, (Term.string "SofaRailwayLaw" 269).eval args s none [] s = some (.ref a) ∧ va_O "java/lang/String" a (Az s.heap.size) s s.heap ∧ va_OF "java/lang/String" "coder" "B" (.int 0) a (Az s.heap.size) s s.heap ∧ va_OF "java/lang/String" "value" "[B" (.ref t) a (Az s.heap.size) s s.heap ∧ va_T .byte t 1 (fun j => .int ((txS 11).getD j 0)) (Az s.heap.size) s s.heap := by
  refine st_of (hn _ nw_630) (hn _ nw_631) (hn _ nw_632) (hn _ nw_633) (by decide) (fun j hj => ?_)
  have h : j = 0 := by omega
  subst h
  · exact (hn _ nw_634)
theorem st_12 {args : Array Value} {s : State} (hn : ∀ c ∈ flatC (Jvm.Cond.and given_1 narrow_1), c.before args s = true) : ∃ a t : Nat, (Term.string "SofaRailwayLaw" 275).eval args s none [] s = some (.ref a) ∧ va_O "java/lang/String" a (Az s.heap.size) s s.heap ∧ va_OF "java/lang/String" "coder" "B" (.int 0) a (Az s.heap.size) s s.heap ∧ va_OF "java/lang/String" "value" "[B" (.ref t) a (Az s.heap.size) s s.heap ∧ va_T .byte t 5 (fun j => .int ((txS 12).getD j 0)) (Az s.heap.size) s s.heap := by
  refine st_of (hn _ nw_642) (hn _ nw_643) (hn _ nw_644) (hn _ nw_645) (by decide) (fun j hj => ?_)
  have h : j = 0 ∨ j = 1 ∨ j = 2 ∨ j = 3 ∨ j = 4 := by omega
  rcases h with rfl | rfl | rfl | rfl | rfl
  · exact (hn _ nw_646)
  · exact (hn _ nw_647)
  · exact (hn _ nw_648)
  · exact (hn _ nw_649)
  · exact (hn _ nw_650)
theorem st_13 {args : Array Value} {s : State} (hn : ∀ c ∈ flatC (Jvm.Cond.and given_1 narrow_1), c.before args s = true) : ∃ a t : Nat, (Term.string "SofaRailwayLaw" 277).eval args s none [] s = some (.ref a) ∧ va_O "java/lang/String" a (Az s.heap.size) s s.heap ∧ va_OF "java/lang/String" "coder" "B" (.int 0) a (Az s.heap.size) s s.heap ∧ va_OF "java/lang/String" "value" "[B" (.ref t) a (Az s.heap.size) s s.heap ∧ va_T .byte t 6 (fun j => .int ((txS 13).getD j 0)) (Az s.heap.size) s s.heap := by
  refine st_of (hn _ nw_651) (hn _ nw_652) (hn _ nw_653) (hn _ nw_654) (by decide) (fun j hj => ?_)
  have h : j = 0 ∨ j = 1 ∨ j = 2 ∨ j = 3 ∨ j = 4 ∨ j = 5 := by omega
  rcases h with rfl | rfl | rfl | rfl | rfl | rfl
  · exact (hn _ nw_655)
  · exact (hn _ nw_656)
  · exact (hn _ nw_657)
  · exact (hn _ nw_658)
  · exact (hn _ nw_659)
  · exact (hn _ nw_660)
theorem st_14 {args : Array Value} {s : State} (hn : ∀ c ∈ flatC (Jvm.Cond.and given_1 narrow_1), c.before args s = true) : ∃ a t : Nat, (Term.string "SofaRailwayLaw" 279).eval args s none [] s = some (.ref a) ∧ va_O "java/lang/String" a (Az s.heap.size) s s.heap ∧ va_OF "java/lang/String" "coder" "B" (.int 0) a (Az s.heap.size) s s.heap ∧ va_OF "java/lang/String" "value" "[B" (.ref t) a (Az s.heap.size) s s.heap ∧ va_T .byte t 1 (fun j => .int ((txS 14).getD j 0)) (Az s.heap.size) s s.heap := by
  refine st_of (hn _ nw_661) (hn _ nw_662) (hn _ nw_663) (hn _ nw_664) (by decide) (fun j hj => ?_)
  have h : j = 0 := by omega
  subst h
  · exact (hn _ nw_665)
theorem st_15 {args : Array Value} {s : State} (hn : ∀ c ∈ flatC (Jvm.Cond.and given_1 narrow_1), c.before args s = true) : ∃ a t : Nat, (Term.string "SofaRailwayLaw" 281).eval args s none [] s = some (.ref a) ∧ va_O "java/lang/String" a (Az s.heap.size) s s.heap ∧ va_OF "java/lang/String" "coder" "B" (.int 0) a (Az s.heap.size) s s.heap ∧ va_OF "java/lang/String" "value" "[B" (.ref t) a (Az s.heap.size) s s.heap ∧ va_T .byte t 1 (fun j => .int ((txS 15).getD j 0)) (Az s.heap.size) s s.heap := by
  refine st_of (hn _ nw_666) (hn _ nw_667) (hn _ nw_668) (hn _ nw_669) (by decide) (fun j hj => ?_)
  have h : j = 0 := by omega
  subst h
  · exact (hn _ nw_670)
def soS (i : Nat) : String := if i < 9 then "SofaRailway$Command" else "SofaRailwayLaw"
def skS (i : Nat) : Nat := ([55, 61, 64, 67, 70, 73, 76, 79, 82, 258, 267, 269, 275, 277, 279, 281] : List Nat).getD i 0
def nmE (j : Nat) : String := (["BLOCK", "CUSHION", "LINK", "TRAIN", "GOAL", "CAT", "HOLD", "RESCUE", "TICK"] : List String).getD j ""
def snE (j : Nat) : Nat := ([55, 61, 64, 67, 70, 73, 76, 79, 82] : List Nat).getD j 0
theorem st_all {args : Array Value} {s : State} (hn : ∀ c ∈ flatC (Jvm.Cond.and given_1 narrow_1), c.before args s = true) : ∀ i, i < 16 → ∃ a t : Nat, (Term.string (soS i) (skS i)).eval args s none [] s = some (.ref a) ∧ va_O "java/lang/String" a (Az s.heap.size) s s.heap ∧ va_OF "java/lang/String" "coder" "B" (.int 0) a (Az s.heap.size) s s.heap ∧ va_OF "java/lang/String" "value" "[B" (.ref t) a (Az s.heap.size) s s.heap ∧ va_T .byte t (txS i).length (fun j => .int ((txS i).getD j 0)) (Az s.heap.size) s s.heap := by
  intro i hi
  have h : i = 0 ∨ i = 1 ∨ i = 2 ∨ i = 3 ∨ i = 4 ∨ i = 5 ∨ i = 6 ∨ i = 7 ∨ i = 8 ∨ i = 9 ∨ i = 10 ∨ i = 11 ∨ i = 12 ∨ i = 13 ∨ i = 14 ∨ i = 15 := by omega
  rcases h with rfl | rfl | rfl | rfl | rfl | rfl | rfl | rfl | rfl | rfl | rfl | rfl | rfl | rfl | rfl | rfl
  · exact st_0 hn
  · exact st_1 hn
  · exact st_2 hn
  · exact st_3 hn
  · exact st_4 hn
  · exact st_5 hn
  · exact st_6 hn
  · exact st_7 hn
  · exact st_8 hn
  · exact st_9 hn
  · exact st_10 hn
  · exact st_11 hn
  · exact st_12 hn
  · exact st_13 hn
  · exact st_14 hn
  · exact st_15 hn
theorem en_all {args : Array Value} {s : State} (hn : ∀ c ∈ flatC (Jvm.Cond.and given_1 narrow_1), c.before args s = true) {st : Nat → Nat} (hs : ∀ i, i < 16 → (Term.string (soS i) (skS i)).eval args s none [] s = some (.ref (st i))) : ∀ j, j < 9 → ∃ a : Nat, (Term.static "SofaRailway$Command" (nmE j) "LSofaRailway$Command;").eval args s none [] s = some (.ref a) ∧ va_O "SofaRailway$Command" a (Az s.heap.size) s s.heap ∧ va_OF "java/lang/Enum" "ordinal" "I" (.int (nI j)) a (Az s.heap.size) s s.heap ∧ va_OF "SofaRailway$Command" "form" "Ljava/lang/String;" (.ref (st j)) a (Az s.heap.size) s s.heap := by
  intro j hj
  have h : j = 0 ∨ j = 1 ∨ j = 2 ∨ j = 3 ∨ j = 4 ∨ j = 5 ∨ j = 6 ∨ j = 7 ∨ j = 8 := by omega
  rcases h with rfl | rfl | rfl | rfl | rfl | rfl | rfl | rfl | rfl
  · exact en_of (nm := "BLOCK") (k := 55) (j := 0) (hn _ nw_2) (hn _ nw_3) (hn _ nw_4) (hs 0 (by decide))
  · exact en_of (nm := "CUSHION") (k := 61) (j := 1) (hn _ nw_244) (hn _ nw_245) (hn _ nw_246) (hs 1 (by decide))
  · exact en_of (nm := "LINK") (k := 64) (j := 2) (hn _ nw_248) (hn _ nw_249) (hn _ nw_250) (hs 2 (by decide))
  · exact en_of (nm := "TRAIN") (k := 67) (j := 3) (hn _ nw_253) (hn _ nw_254) (hn _ nw_255) (hs 3 (by decide))
  · exact en_of (nm := "GOAL") (k := 70) (j := 4) (hn _ nw_259) (hn _ nw_260) (hn _ nw_261) (hs 4 (by decide))
  · exact en_of (nm := "CAT") (k := 73) (j := 5) (hn _ nw_266) (hn _ nw_267) (hn _ nw_268) (hs 5 (by decide))
  · exact en_of (nm := "HOLD") (k := 76) (j := 6) (hn _ nw_274) (hn _ nw_275) (hn _ nw_276) (hs 6 (by decide))
  · exact en_of (nm := "RESCUE") (k := 79) (j := 7) (hn _ nw_283) (hn _ nw_284) (hn _ nw_285) (hs 7 (by decide))
  · exact en_of (nm := "TICK") (k := 82) (j := 8) (hn _ nw_293) (hn _ nw_294) (hn _ nw_295) (hs 8 (by decide))
theorem com_at {args : Array Value} {s : State} (hn : ∀ c ∈ flatC (Jvm.Cond.and given_1 narrow_1), c.before args s = true) {ec : Nat → Nat} (he : ∀ j, j < 9 → (Term.static "SofaRailway$Command" (nmE j) "LSofaRailway$Command;").eval args s none [] s = some (.ref (ec j))) : ∃ t : Nat, (Jvm.Term.static "SofaRailway" "COMMANDS" "[LSofaRailway$Command;").eval args s none [] s = some (.ref t) ∧ va_T (.object "SofaRailway$Command") t 9 (fun j => .ref (ec j)) (Az s.heap.size) s s.heap := by
  refine va_Tof (f := fun j => .ref (ec j)) (by decide) (hn _ nw_220) (Cond.eq_int (hn _ nw_221) rfl) (fun j hj => ?_) (Az_no s)
  have h : j = 0 ∨ j = 1 ∨ j = 2 ∨ j = 3 ∨ j = 4 ∨ j = 5 ∨ j = 6 ∨ j = 7 ∨ j = 8 := by omega
  rcases h with rfl | rfl | rfl | rfl | rfl | rfl | rfl | rfl | rfl
  · exact Cond.eq_refs (hn _ nw_223) (he 0 (by decide)) rfl
  · exact Cond.eq_refs (hn _ nw_224) (he 1 (by decide)) rfl
  · exact Cond.eq_refs (hn _ nw_225) (he 2 (by decide)) rfl
  · exact Cond.eq_refs (hn _ nw_226) (he 3 (by decide)) rfl
  · exact Cond.eq_refs (hn _ nw_227) (he 4 (by decide)) rfl
  · exact Cond.eq_refs (hn _ nw_228) (he 5 (by decide)) rfl
  · exact Cond.eq_refs (hn _ nw_229) (he 6 (by decide)) rfl
  · exact Cond.eq_refs (hn _ nw_230) (he 7 (by decide)) rfl
  · exact Cond.eq_refs (hn _ nw_231) (he 8 (by decide)) rfl
theorem swm_at {args : Array Value} {s : State} (hn : ∀ c ∈ flatC (Jvm.Cond.and given_1 narrow_1), c.before args s = true) : ∃ t : Nat, (Jvm.Term.static "SofaRailway$1" "$SwitchMap$SofaRailway$Command" "[I").eval args s none [] s = some (.ref t) ∧ va_T .int t 9 (fun j => .int (nI (j + 1))) (Az s.heap.size) s s.heap := by
  refine va_Tof (f := fun j => .int (nI (j + 1))) (by decide) (hn _ nw_233) (Cond.eq_int (hn _ nw_234) rfl) (fun j hj => ?_) (Az_no s)
  have h : j = 0 ∨ j = 1 ∨ j = 2 ∨ j = 3 ∨ j = 4 ∨ j = 5 ∨ j = 6 ∨ j = 7 ∨ j = 8 := by omega
  rcases h with rfl | rfl | rfl | rfl | rfl | rfl | rfl | rfl | rfl
  · exact Cond.eq_int (hn _ nw_235) rfl
  · exact Cond.eq_int (hn _ nw_236) rfl
  · exact Cond.eq_int (hn _ nw_237) rfl
  · exact Cond.eq_int (hn _ nw_238) rfl
  · exact Cond.eq_int (hn _ nw_239) rfl
  · exact Cond.eq_int (hn _ nw_240) rfl
  · exact Cond.eq_int (hn _ nw_241) rfl
  · exact Cond.eq_int (hn _ nw_242) rfl
  · exact Cond.eq_int (hn _ nw_243) rfl
theorem dg_1 : ∀ j, j < 100 → (flatC (Jvm.Cond.and given_1 narrow_1))[17 + j]? = some (Jvm.Cond.eq (Jvm.Term.elem (Jvm.Term.static "java/lang/Integer" "DigitOnes" "[B") (Jvm.Term.int (Int32.ofNat j))) (Jvm.Term.int (nI (48 + j % 10)))) := by decide +kernel
theorem dig1_at {args : Array Value} {s : State} (hn : ∀ c ∈ flatC (Jvm.Cond.and given_1 narrow_1), c.before args s = true) : ∃ t : Nat, (Jvm.Term.static "java/lang/Integer" "DigitOnes" "[B").eval args s none [] s = some (.ref t) ∧ va_T .byte t 100 (fun j => .int (nI (48 + j % 10))) (Az s.heap.size) s s.heap :=
  va_Tof (f := fun j => .int (nI (48 + j % 10))) (by decide) (hn _ nw_13) (Cond.eq_int (hn _ nw_14) rfl) (fun j hj => Cond.eq_int (hn _ (List.mem_of_getElem? (dg_1 j hj))) rfl) (Az_no s)
theorem dg_2 : ∀ j, j < 100 → (flatC (Jvm.Cond.and given_1 narrow_1))[120 + j]? = some (Jvm.Cond.eq (Jvm.Term.elem (Jvm.Term.static "java/lang/Integer" "DigitTens" "[B") (Jvm.Term.int (Int32.ofNat j))) (Jvm.Term.int (nI (48 + j / 10)))) := by decide +kernel
theorem dig2_at {args : Array Value} {s : State} (hn : ∀ c ∈ flatC (Jvm.Cond.and given_1 narrow_1), c.before args s = true) : ∃ t : Nat, (Jvm.Term.static "java/lang/Integer" "DigitTens" "[B").eval args s none [] s = some (.ref t) ∧ va_T .byte t 100 (fun j => .int (nI (48 + j / 10))) (Az s.heap.size) s s.heap :=
  va_Tof (f := fun j => .int (nI (48 + j / 10))) (by decide) (hn _ nw_116) (Cond.eq_int (hn _ nw_117) rfl) (fun j hj => Cond.eq_int (hn _ (List.mem_of_getElem? (dg_2 j hj))) rfl) (Az_no s)
end JSTART

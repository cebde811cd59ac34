/-! THE LAW: what holds at its start -/
section JSTART
theorem va_OFof {args : Array Value} {s : State} {t : Term} {o n d : String} {a : Nat} {v : Value} {A : Nat → Prop} (ht : t.eval args s none [] s = some (.ref a)) (hv : (Term.field t o n d).eval args s none [] s = some v) (hA : ∀ a : Nat, a < s.heap.size → ¬ A a) : va_OF o n d v a A s s.heap := by
  cases hi : s.fieldFound? o n d with
  | none => simp [Term.eval, ht, State.fieldOf?, State.fieldNamed?, hi] at hv
  | some x =>
    obtain ⟨c, k, i, f⟩ := x
    obtain ⟨h1, cell, h2, h3, h4, h5, h6⟩ := Term.field_spec hi ht hv
    exact ⟨c, k, i, f, cell, hi, h1, h2, h3, h6, hA _ (Array.getElem?_eq_some_iff.mp h2).1⟩
theorem Az_no (s : State) : ∀ a : Nat, a < s.heap.size → ¬ Az s.heap.size a := fun a h q => Nat.not_le.mpr h q
theorem ex_ref {args : Array Value} {s : State} {t : Term} {nm : String} (h : (Cond.exactly t nm).before args s = true) : ∃ a : Nat, t.eval args s none [] s = some (.ref a) ∧ va_O nm a (Az s.heap.size) s s.heap := by
  obtain ⟨a, c, cell, k, h1, -⟩ := Cond.exactly_spec (args := args) (first := s) (o := none) (s := s) (idx := []) h
  exact ⟨a, h1, va_Oof h h1 (Az_no s)⟩
theorem st_of {args : Array Value} {s : State} {own : String} {k i N : Nat} (h1 : (Cond.exactly (.string own k) "java/lang/String").before args s = true) (h2 : (Cond.eq (.field (.string own k) "java/lang/String" "coder" "B") (.int 0)).before args s = true) (h3 : (Cond.arrayOf (.field (.string own k) "java/lang/String" "value" "[B") .byte).before args s = true) (h4 : (Cond.eq (.length (.field (.string own k) "java/lang/String" "value" "[B")) (.int (Int32.ofNat N))).before args s = true) (hN : N < 2 ^ 31)
    (h5 : ∀ j, j < N → (Cond.eq (.elem (.field (.string own k) "java/lang/String" "value" "[B") (.int (Int32.ofNat j))) (.int ((txS i).getD j 0))).before args s = true) :
    ∃ a t : Nat, (Term.string own k).eval args s none [] s = some (.ref a) ∧ va_O "java/lang/String" a (Az s.heap.size) s s.heap ∧ va_OF "java/lang/String" "coder" "B" (.int 0) a (Az s.heap.size) s s.heap ∧ va_OF "java/lang/String" "value" "[B" (.ref t) a (Az s.heap.size) s s.heap ∧ va_T .byte t N (fun j => .int ((txS i).getD j 0)) (Az s.heap.size) s s.heap := by
  obtain ⟨a, ha, hO⟩ := ex_ref h1
  obtain ⟨t, ht, hT⟩ := va_Tof (f := fun j => .int ((txS i).getD j 0)) hN h3 (Cond.eq_int h4 rfl) (fun j hj => Cond.eq_int (h5 j hj) rfl) (Az_no s)
  exact ⟨a, t, ha, hO, va_OFof ha (Cond.eq_int h2 rfl) (Az_no s), va_OFof ha ht (Az_no s), hT⟩
theorem en_of {args : Array Value} {s : State} {nm : String} {k j st : Nat} (h1 : (Cond.exactly (.static "SofaRailway$Command" nm "LSofaRailway$Command;") "SofaRailway$Command").before args s = true) (h2 : (Cond.eq (.field (.static "SofaRailway$Command" nm "LSofaRailway$Command;") "java/lang/Enum" "ordinal" "I") (.int (nI j))).before args s = true) (h3 : (Cond.eq (.field (.static "SofaRailway$Command" nm "LSofaRailway$Command;") "SofaRailway$Command" "form" "Ljava/lang/String;") (.string "SofaRailway$Command" k)).before args s = true) (hs : (Term.string "SofaRailway$Command" k).eval args s none [] s = some (.ref st)) :
    ∃ a : Nat, (Term.static "SofaRailway$Command" nm "LSofaRailway$Command;").eval args s none [] s = some (.ref a) ∧ va_O "SofaRailway$Command" a (Az s.heap.size) s s.heap ∧ va_OF "java/lang/Enum" "ordinal" "I" (.int (nI j)) a (Az s.heap.size) s s.heap ∧ va_OF "SofaRailway$Command" "form" "Ljava/lang/String;" (.ref st) a (Az s.heap.size) s s.heap := by
  obtain ⟨a, ha, hO⟩ := ex_ref h1
  exact ⟨a, ha, hO, va_OFof ha (Cond.eq_int h2 rfl) (Az_no s), va_OFof ha (Cond.eq_refs h3 hs rfl) (Az_no s)⟩
theorem st_0 {args : Array Value} {s : State} (hn : ∀ c ∈ flatC (Jvm.Cond.and given_1 narrow_1), c.before args s = true) : ∃ a t : Nat, (Term.string "SofaRailway$Command" 55).eval args s none [] s = some (.ref a) ∧ va_O "java/lang/String" a (Az s.heap.size) s s.heap ∧ va_OF "java/lang/String" "coder" "B" (.int 0) a (Az s.heap.size) s s.heap ∧ va_OF "java/lang/String" "value" "[B" (.ref t) a (Az s.heap.size) s s.heap ∧ va_T .byte t 7 (fun j => .int ((txS 0).getD j 0)) (Az s.heap.size) s s.heap := by
  refine st_of (hn _ nw_730) (hn _ nw_731) (hn _ nw_732) (hn _ nw_733) (by decide) (fun j hj => ?_)
  have h : j = 0 ∨ j = 1 ∨ j = 2 ∨ j = 3 ∨ j = 4 ∨ j = 5 ∨ j = 6 := by omega
  rcases h with rfl | rfl | rfl | rfl | rfl | rfl | rfl
  · exact (hn _ nw_734)
  · exact (hn _ nw_735)
  · exact (hn _ nw_736)
  · exact (hn _ nw_737)
  · exact (hn _ nw_738)
  · exact (hn _ nw_739)
  · exact (hn _ nw_740)
theorem st_1 {args : Array Value} {s : State} (hn : ∀ c ∈ flatC (Jvm.Cond.and given_1 narrow_1), c.before args s = true) : ∃ a t : Nat, (Term.string "SofaRailway$Command" 61).eval args s none [] s = some (.ref a) ∧ va_O "java/lang/String" a (Az s.heap.size) s s.heap ∧ va_OF "java/lang/String" "coder" "B" (.int 0) a (Az s.heap.size) s s.heap ∧ va_OF "java/lang/String" "value" "[B" (.ref t) a (Az s.heap.size) s s.heap ∧ va_T .byte t 9 (fun j => .int ((txS 1).getD j 0)) (Az s.heap.size) s s.heap := by
  refine st_of (hn _ nw_741) (hn _ nw_742) (hn _ nw_743) (hn _ nw_744) (by decide) (fun j hj => ?_)
  have h : j = 0 ∨ j = 1 ∨ j = 2 ∨ j = 3 ∨ j = 4 ∨ j = 5 ∨ j = 6 ∨ j = 7 ∨ j = 8 := by omega
  rcases h with rfl | rfl | rfl | rfl | rfl | rfl | rfl | rfl | rfl
  · exact (hn _ nw_745)
  · exact (hn _ nw_746)
  · exact (hn _ nw_747)
  · exact (hn _ nw_748)
  · exact (hn _ nw_749)
  · exact (hn _ nw_750)
  · exact (hn _ nw_751)
  · exact (hn _ nw_752)
  · exact (hn _ nw_753)
theorem st_2 {args : Array Value} {s : State} (hn : ∀ c ∈ flatC (Jvm.Cond.and given_1 narrow_1), c.before args s = true) : ∃ a t : Nat, (Term.string "SofaRailway$Command" 64).eval args s none [] s = some (.ref a) ∧ va_O "java/lang/String" a (Az s.heap.size) s s.heap ∧ va_OF "java/lang/String" "coder" "B" (.int 0) a (Az s.heap.size) s s.heap ∧ va_OF "java/lang/String" "value" "[B" (.ref t) a (Az s.heap.size) s s.heap ∧ va_T .byte t 8 (fun j => .int ((txS 2).getD j 0)) (Az s.heap.size) s s.heap := by
  refine st_of (hn _ nw_754) (hn _ nw_755) (hn _ nw_756) (hn _ nw_757) (by decide) (fun j hj => ?_)
  have h : j = 0 ∨ j = 1 ∨ j = 2 ∨ j = 3 ∨ j = 4 ∨ j = 5 ∨ j = 6 ∨ j = 7 := by omega
  rcases h with rfl | rfl | rfl | rfl | rfl | rfl | rfl | rfl
  · exact (hn _ nw_758)
  · exact (hn _ nw_759)
  · exact (hn _ nw_760)
  · exact (hn _ nw_761)
  · exact (hn _ nw_762)
  · exact (hn _ nw_763)
  · exact (hn _ nw_764)
  · exact (hn _ nw_765)
theorem st_3 {args : Array Value} {s : State} (hn : ∀ c ∈ flatC (Jvm.Cond.and given_1 narrow_1), c.before args s = true) : ∃ a t : Nat, (Term.string "SofaRailway$Command" 67).eval args s none [] s = some (.ref a) ∧ va_O "java/lang/String" a (Az s.heap.size) s s.heap ∧ va_OF "java/lang/String" "coder" "B" (.int 0) a (Az s.heap.size) s s.heap ∧ va_OF "java/lang/String" "value" "[B" (.ref t) a (Az s.heap.size) s s.heap ∧ va_T .byte t 9 (fun j => .int ((txS 3).getD j 0)) (Az s.heap.size) s s.heap := by
  refine st_of (hn _ nw_766) (hn _ nw_767) (hn _ nw_768) (hn _ nw_769) (by decide) (fun j hj => ?_)
  have h : j = 0 ∨ j = 1 ∨ j = 2 ∨ j = 3 ∨ j = 4 ∨ j = 5 ∨ j = 6 ∨ j = 7 ∨ j = 8 := by omega
  rcases h with rfl | rfl | rfl | rfl | rfl | rfl | rfl | rfl | rfl
  · exact (hn _ nw_770)
  · exact (hn _ nw_771)
  · exact (hn _ nw_772)
  · exact (hn _ nw_773)
  · exact (hn _ nw_774)
  · exact (hn _ nw_775)
  · exact (hn _ nw_776)
  · exact (hn _ nw_777)
  · exact (hn _ nw_778)
theorem st_4 {args : Array Value} {s : State} (hn : ∀ c ∈ flatC (Jvm.Cond.and given_1 narrow_1), c.before args s = true) : ∃ a t : Nat, (Term.string "SofaRailway$Command" 70).eval args s none [] s = some (.ref a) ∧ va_O "java/lang/String" a (Az s.heap.size) s s.heap ∧ va_OF "java/lang/String" "coder" "B" (.int 0) a (Az s.heap.size) s s.heap ∧ va_OF "java/lang/String" "value" "[B" (.ref t) a (Az s.heap.size) s s.heap ∧ va_T .byte t 8 (fun j => .int ((txS 4).getD j 0)) (Az s.heap.size) s s.heap := by
  refine st_of (hn _ nw_779) (hn _ nw_780) (hn _ nw_781) (hn _ nw_782) (by decide) (fun j hj => ?_)
  have h : j = 0 ∨ j = 1 ∨ j = 2 ∨ j = 3 ∨ j = 4 ∨ j = 5 ∨ j = 6 ∨ j = 7 := by omega
  rcases h with rfl | rfl | rfl | rfl | rfl | rfl | rfl | rfl
  · exact (hn _ nw_783)
  · exact (hn _ nw_784)
  · exact (hn _ nw_785)
  · exact (hn _ nw_786)
  · exact (hn _ nw_787)
  · exact (hn _ nw_788)
  · exact (hn _ nw_789)
  · exact (hn _ nw_790)
theorem st_5 {args : Array Value} {s : State} (hn : ∀ c ∈ flatC (Jvm.Cond.and given_1 narrow_1), c.before args s = true) : ∃ a t : Nat, (Term.string "SofaRailway$Command" 73).eval args s none [] s = some (.ref a) ∧ va_O "java/lang/String" a (Az s.heap.size) s s.heap ∧ va_OF "java/lang/String" "coder" "B" (.int 0) a (Az s.heap.size) s s.heap ∧ va_OF "java/lang/String" "value" "[B" (.ref t) a (Az s.heap.size) s s.heap ∧ va_T .byte t 5 (fun j => .int ((txS 5).getD j 0)) (Az s.heap.size) s s.heap := by
  refine st_of (hn _ nw_791) (hn _ nw_792) (hn _ nw_793) (hn _ nw_794) (by decide) (fun j hj => ?_)
  have h : j = 0 ∨ j = 1 ∨ j = 2 ∨ j = 3 ∨ j = 4 := by omega
  rcases h with rfl | rfl | rfl | rfl | rfl
  · exact (hn _ nw_795)
  · exact (hn _ nw_796)
  · exact (hn _ nw_797)
  · exact (hn _ nw_798)
  · exact (hn _ nw_799)
theorem st_6 {args : Array Value} {s : State} (hn : ∀ c ∈ flatC (Jvm.Cond.and given_1 narrow_1), c.before args s = true) : ∃ a t : Nat, (Term.string "SofaRailway$Command" 76).eval args s none [] s = some (.ref a) ∧ va_O "java/lang/String" a (Az s.heap.size) s s.heap ∧ va_OF "java/lang/String" "coder" "B" (.int 0) a (Az s.heap.size) s s.heap ∧ va_OF "java/lang/String" "value" "[B" (.ref t) a (Az s.heap.size) s s.heap ∧ va_T .byte t 8 (fun j => .int ((txS 6).getD j 0)) (Az s.heap.size) s s.heap := by
  refine st_of (hn _ nw_800) (hn _ nw_801) (hn _ nw_802) (hn _ nw_803) (by decide) (fun j hj => ?_)
  have h : j = 0 ∨ j = 1 ∨ j = 2 ∨ j = 3 ∨ j = 4 ∨ j = 5 ∨ j = 6 ∨ j = 7 := by omega
  rcases h with rfl | rfl | rfl | rfl | rfl | rfl | rfl | rfl
  · exact (hn _ nw_804)
  · exact (hn _ nw_805)
  · exact (hn _ nw_806)
  · exact (hn _ nw_807)
  · exact (hn _ nw_808)
  · exact (hn _ nw_809)
  · exact (hn _ nw_810)
  · exact (hn _ nw_811)
theorem st_7 {args : Array Value} {s : State} (hn : ∀ c ∈ flatC (Jvm.Cond.and given_1 narrow_1), c.before args s = true) : ∃ a t : Nat, (Term.string "SofaRailway$Command" 79).eval args s none [] s = some (.ref a) ∧ va_O "java/lang/String" a (Az s.heap.size) s s.heap ∧ va_OF "java/lang/String" "coder" "B" (.int 0) a (Az s.heap.size) s s.heap ∧ va_OF "java/lang/String" "value" "[B" (.ref t) a (Az s.heap.size) s s.heap ∧ va_T .byte t 8 (fun j => .int ((txS 7).getD j 0)) (Az s.heap.size) s s.heap := by
  refine st_of (hn _ nw_812) (hn _ nw_813) (hn _ nw_814) (hn _ nw_815) (by decide) (fun j hj => ?_)
  have h : j = 0 ∨ j = 1 ∨ j = 2 ∨ j = 3 ∨ j = 4 ∨ j = 5 ∨ j = 6 ∨ j = 7 := by omega
  rcases h with rfl | rfl | rfl | rfl | rfl | rfl | rfl | rfl
  · exact (hn _ nw_816)
  · exact (hn _ nw_817)
  · exact (hn _ nw_818)
  · exact (hn _ nw_819)
  · exact (hn _ nw_820)
  · exact (hn _ nw_821)
  · exact (hn _ nw_822)
  · exact (hn _ nw_823)
theorem st_8 {args : Array Value} {s : State} (hn : ∀ c ∈ flatC (Jvm.Cond.and given_1 narrow_1), c.before args s = true) : ∃ a t : Nat, (Term.string "SofaRailway$Command" 82).eval args s none [] s = some (.ref a) ∧ va_O "java/lang/String" a (Az s.heap.size) s s.heap ∧ va_OF "java/lang/String" "coder" "B" (.int 0) a (Az s.heap.size) s s.heap ∧ va_OF "java/lang/String" "value" "[B" (.ref t) a (Az s.heap.size) s s.heap ∧ va_T .byte t 6 (fun j => .int ((txS 8).getD j 0)) (Az s.heap.size) s s.heap := by
  refine st_of (hn _ nw_824) (hn _ nw_825) (hn _ nw_826) (hn _ nw_827) (by decide) (fun j hj => ?_)
  have h : j = 0 ∨ j = 1 ∨ j = 2 ∨ j = 3 ∨ j = 4 ∨ j = 5 := by omega
  rcases h with rfl | rfl | rfl | rfl | rfl | rfl
  · exact (hn _ nw_828)
  · exact (hn _ nw_829)
  · exact (hn _ nw_830)
  · exact (hn _ nw_831)
  · exact (hn _ nw_832)
  · exact (hn _ nw_833)
theorem st_9 {args : Array Value} {s : State} (hn : ∀ c ∈ flatC (Jvm.Cond.and given_1 narrow_1), c.before args s = true) : ∃ a t : Nat, (Term.string "SofaRailwayModel" 239).eval args s none [] s = some (.ref a) ∧ va_O "java/lang/String" a (Az s.heap.size) s s.heap ∧ va_OF "java/lang/String" "coder" "B" (.int 0) a (Az s.heap.size) s s.heap ∧ va_OF "java/lang/String" "value" "[B" (.ref t) a (Az s.heap.size) s s.heap ∧ va_T .byte t 6 (fun j => .int ((txS 9).getD j 0)) (Az s.heap.size) s s.heap := by
  refine st_of (hn _ nw_623) (hn _ nw_624) (hn _ nw_625) (hn _ nw_626) (by decide) (fun j hj => ?_)
  have h : j = 0 ∨ j = 1 ∨ j = 2 ∨ j = 3 ∨ j = 4 ∨ j = 5 := by omega
  rcases h with rfl | rfl | rfl | rfl | rfl | rfl
  · exact (hn _ nw_627)
  · exact (hn _ nw_628)
  · exact (hn _ nw_629)
  · exact (hn _ nw_630)
  · exact (hn _ nw_631)
  · exact (hn _ nw_632)
theorem st_10 {args : Array Value} {s : State} (hn : ∀ c ∈ flatC (Jvm.Cond.and given_1 narrow_1), c.before args s = true) : ∃ a t : Nat, (Term.string "SofaRailwayModel" 241).eval args s none [] s = some (.ref a) ∧ va_O "java/lang/String" a (Az s.heap.size) s s.heap ∧ va_OF "java/lang/String" "coder" "B" (.int 0) a (Az s.heap.size) s s.heap ∧ va_OF "java/lang/String" "value" "[B" (.ref t) a (Az s.heap.size) s s.heap ∧ va_T .byte t 4 (fun j => .int ((txS 10).getD j 0)) (Az s.heap.size) s s.heap := by
  refine st_of (hn _ nw_633) (hn _ nw_634) (hn _ nw_635) (hn _ nw_636) (by decide) (fun j hj => ?_)
  have h : j = 0 ∨ j = 1 ∨ j = 2 ∨ j = 3 := by omega
  rcases h with rfl | rfl | rfl | rfl
  · exact (hn _ nw_637)
  · exact (hn _ nw_638)
  · exact (hn _ nw_639)
  · exact (hn _ nw_640)
theorem st_11 {args : Array Value} {s : State} (hn : ∀ c ∈ flatC (Jvm.Cond.and given_1 narrow_1), c.before args s = true) : ∃ a t : Nat, (Term.string "SofaRailwayModel" 243).eval args s none [] s = some (.ref a) ∧ va_O "java/lang/String" a (Az s.heap.size) s s.heap ∧ va_OF "java/lang/String" "coder" "B" (.int 0) a (Az s.heap.size) s s.heap ∧ va_OF "java/lang/String" "value" "[B" (.ref t) a (Az s.heap.size) s s.heap ∧ va_T .byte t 8 (fun j => .int ((txS 11).getD j 0)) (Az s.heap.size) s s.heap := by
  refine st_of (hn _ nw_641) (hn _ nw_642) (hn _ nw_643) (hn _ nw_644) (by decide) (fun j hj => ?_)
  have h : j = 0 ∨ j = 1 ∨ j = 2 ∨ j = 3 ∨ j = 4 ∨ j = 5 ∨ j = 6 ∨ j = 7 := by omega
  rcases h with rfl | rfl | rfl | rfl | rfl | rfl | rfl | rfl
  · exact (hn _ nw_645)
  · exact (hn _ nw_646)
  · exact (hn _ nw_647)
  · exact (hn _ nw_648)
  · exact (hn _ nw_649)
  · exact (hn _ nw_650)
  · exact (hn _ nw_651)
  · exact (hn _ nw_652)
theorem st_12 {args : Array Value} {s : State} (hn : ∀ c ∈ flatC (Jvm.Cond.and given_1 narrow_1), c.before args s = true) : ∃ a t : Nat, (Term.string "SofaRailwayModel" 245).eval args s none [] s = some (.ref a) ∧ va_O "java/lang/String" a (Az s.heap.size) s s.heap ∧ va_OF "java/lang/String" "coder" "B" (.int 0) a (Az s.heap.size) s s.heap ∧ va_OF "java/lang/String" "value" "[B" (.ref t) a (Az s.heap.size) s s.heap ∧ va_T .byte t 5 (fun j => .int ((txS 12).getD j 0)) (Az s.heap.size) s s.heap := by
  refine st_of (hn _ nw_653) (hn _ nw_654) (hn _ nw_655) (hn _ nw_656) (by decide) (fun j hj => ?_)
  have h : j = 0 ∨ j = 1 ∨ j = 2 ∨ j = 3 ∨ j = 4 := by omega
  rcases h with rfl | rfl | rfl | rfl | rfl
  · exact (hn _ nw_657)
  · exact (hn _ nw_658)
  · exact (hn _ nw_659)
  · exact (hn _ nw_660)
  · exact (hn _ nw_661)
theorem st_13 {args : Array Value} {s : State} (hn : ∀ c ∈ flatC (Jvm.Cond.and given_1 narrow_1), c.before args s = true) : ∃ a t : Nat, (Term.string "SofaRailwayModel" 247).eval args s none [] s = some (.ref a) ∧ va_O "java/lang/String" a (Az s.heap.size) s s.heap ∧ va_OF "java/lang/String" "coder" "B" (.int 0) a (Az s.heap.size) s s.heap ∧ va_OF "java/lang/String" "value" "[B" (.ref t) a (Az s.heap.size) s s.heap ∧ va_T .byte t 1 (fun j => .int ((txS 13).getD j 0)) (Az s.heap.size) s s.heap := by
  refine st_of (hn _ nw_662) (hn _ nw_663) (hn _ nw_664) (hn _ nw_665) (by decide) (fun j hj => ?_)
  have h : j = 0 := by omega
  subst h
  · exact (hn _ nw_666)
theorem st_14 {args : Array Value} {s : State} (hn : ∀ c ∈ flatC (Jvm.Cond.and given_1 narrow_1), c.before args s = true) : ∃ a t : Nat, (Term.string "SofaRailwayModel" 253).eval args s none [] s = some (.ref a) ∧ va_O "java/lang/String" a (Az s.heap.size) s s.heap ∧ va_OF "java/lang/String" "coder" "B" (.int 0) a (Az s.heap.size) s s.heap ∧ va_OF "java/lang/String" "value" "[B" (.ref t) a (Az s.heap.size) s s.heap ∧ va_T .byte t 5 (fun j => .int ((txS 14).getD j 0)) (Az s.heap.size) s s.heap := by
  refine st_of (hn _ nw_667) (hn _ nw_668) (hn _ nw_669) (hn _ nw_670) (by decide) (fun j hj => ?_)
  have h : j = 0 ∨ j = 1 ∨ j = 2 ∨ j = 3 ∨ j = 4 := by omega
  rcases h with rfl | rfl | rfl | rfl | rfl
  · exact (hn _ nw_671)
  · exact (hn _ nw_672)
  · exact (hn _ nw_673)
  · exact (hn _ nw_674)
  · exact (hn _ nw_675)
theorem st_15 {args : Array Value} {s : State} (hn : ∀ c ∈ flatC (Jvm.Cond.and given_1 narrow_1), c.before args s = true) : ∃ a t : Nat, (Term.string "SofaRailwayModel" 255).eval args s none [] s = some (.ref a) ∧ va_O "java/lang/String" a (Az s.heap.size) s s.heap ∧ va_OF "java/lang/String" "coder" "B" (.int 0) a (Az s.heap.size) s s.heap ∧ va_OF "java/lang/String" "value" "[B" (.ref t) a (Az s.heap.size) s s.heap ∧ va_T .byte t 6 (fun j => .int ((txS 15).getD j 0)) (Az s.heap.size) s s.heap := by
  refine st_of (hn _ nw_676) (hn _ nw_677) (hn _ nw_678) (hn _ nw_679) (by decide) (fun j hj => ?_)
  have h : j = 0 ∨ j = 1 ∨ j = 2 ∨ j = 3 ∨ j = 4 ∨ j = 5 := by omega
  rcases h with rfl | rfl | rfl | rfl | rfl | rfl
  · exact (hn _ nw_680)
  · exact (hn _ nw_681)
  · exact (hn _ nw_682)
  · exact (hn _ nw_683)
  · exact (hn _ nw_684)
  · exact (hn _ nw_685)
theorem st_16 {args : Array Value} {s : State} (hn : ∀ c ∈ flatC (Jvm.Cond.and given_1 narrow_1), c.before args s = true) : ∃ a t : Nat, (Term.string "SofaRailwayModel" 257).eval args s none [] s = some (.ref a) ∧ va_O "java/lang/String" a (Az s.heap.size) s s.heap ∧ va_OF "java/lang/String" "coder" "B" (.int 0) a (Az s.heap.size) s s.heap ∧ va_OF "java/lang/String" "value" "[B" (.ref t) a (Az s.heap.size) s s.heap ∧ va_T .byte t 1 (fun j => .int ((txS 16).getD j 0)) (Az s.heap.size) s s.heap := by
  refine st_of (hn _ nw_686) (hn _ nw_687) (hn _ nw_688) (hn _ nw_689) (by decide) (fun j hj => ?_)
  have h : j = 0 := by omega
  subst h
  · exact (hn _ nw_690)
theorem st_17 {args : Array Value} {s : State} (hn : ∀ c ∈ flatC (Jvm.Cond.and given_1 narrow_1), c.before args s = true) : ∃ a t : Nat, (Term.string "SofaRailwayModel" 259).eval args s none [] s = some (.ref a) ∧ va_O "java/lang/String" a (Az s.heap.size) s s.heap ∧ va_OF "java/lang/String" "coder" "B" (.int 0) a (Az s.heap.size) s s.heap ∧ va_OF "java/lang/String" "value" "[B" (.ref t) a (Az s.heap.size) s s.heap ∧ va_T .byte t 5 (fun j => .int ((txS 17).getD j 0)) (Az s.heap.size) s s.heap := by
  refine st_of (hn _ nw_691) (hn _ nw_692) (hn _ nw_693) (hn _ nw_694) (by decide) (fun j hj => ?_)
  have h : j = 0 ∨ j = 1 ∨ j = 2 ∨ j = 3 ∨ j = 4 := by omega
  rcases h with rfl | rfl | rfl | rfl | rfl
  · exact (hn _ nw_695)
  · exact (hn _ nw_696)
  · exact (hn _ nw_697)
  · exact (hn _ nw_698)
  · exact (hn _ nw_699)
theorem st_18 {args : Array Value} {s : State} (hn : ∀ c ∈ flatC (Jvm.Cond.and given_1 narrow_1), c.before args s = true) : ∃ a t : Nat, (Term.string "SofaRailwayModel" 261).eval args s none [] s = some (.ref a) ∧ va_O "java/lang/String" a (Az s.heap.size) s s.heap ∧ va_OF "java/lang/String" "coder" "B" (.int 0) a (Az s.heap.size) s s.heap ∧ va_OF "java/lang/String" "value" "[B" (.ref t) a (Az s.heap.size) s s.heap ∧ va_T .byte t 1 (fun j => .int ((txS 18).getD j 0)) (Az s.heap.size) s s.heap := by
  refine st_of (hn _ nw_700) (hn _ nw_701) (hn _ nw_702) (hn _ nw_703) (by decide) (fun j hj => ?_)
  have h : j = 0 := by omega
  subst h
  · exact (hn _ nw_704)
theorem st_19 {args : Array Value} {s : State} (hn : ∀ c ∈ flatC (Jvm.Cond.and given_1 narrow_1), c.before args s = true) : ∃ a t : Nat, (Term.string "SofaRailwayModel" 263).eval args s none [] s = some (.ref a) ∧ va_O "java/lang/String" a (Az s.heap.size) s s.heap ∧ va_OF "java/lang/String" "coder" "B" (.int 0) a (Az s.heap.size) s s.heap ∧ va_OF "java/lang/String" "value" "[B" (.ref t) a (Az s.heap.size) s s.heap ∧ va_T .byte t 5 (fun j => .int ((txS 19).getD j 0)) (Az s.heap.size) s s.heap := by
  refine st_of (hn _ nw_705) (hn _ nw_706) (hn _ nw_707) (hn _ nw_708) (by decide) (fun j hj => ?_)
  have h : j = 0 ∨ j = 1 ∨ j = 2 ∨ j = 3 ∨ j = 4 := by omega
  rcases h with rfl | rfl | rfl | rfl | rfl
  · exact (hn _ nw_709)
  · exact (hn _ nw_710)
  · exact (hn _ nw_711)
  · exact (hn _ nw_712)
  · exact (hn _ nw_713)
theorem st_20 {args : Array Value} {s : State} (hn : ∀ c ∈ flatC (Jvm.Cond.and given_1 narrow_1), c.before args s = true) : ∃ a t : Nat, (Term.string "SofaRailwayModel" 265).eval args s none [] s = some (.ref a) ∧ va_O "java/lang/String" a (Az s.heap.size) s s.heap ∧ va_OF "java/lang/String" "coder" "B" (.int 0) a (Az s.heap.size) s s.heap ∧ va_OF "java/lang/String" "value" "[B" (.ref t) a (Az s.heap.size) s s.heap ∧ va_T .byte t 1 (fun j => .int ((txS 20).getD j 0)) (Az s.heap.size) s s.heap := by
  refine st_of (hn _ nw_714) (hn _ nw_715) (hn _ nw_716) (hn _ nw_717) (by decide) (fun j hj => ?_)
  have h : j = 0 := by omega
  subst h
  · exact (hn _ nw_718)
theorem st_21 {args : Array Value} {s : State} (hn : ∀ c ∈ flatC (Jvm.Cond.and given_1 narrow_1), c.before args s = true) : ∃ a t : Nat, (Term.string "SofaRailwayModel" 267).eval args s none [] s = some (.ref a) ∧ va_O "java/lang/String" a (Az s.heap.size) s s.heap ∧ va_OF "java/lang/String" "coder" "B" (.int 0) a (Az s.heap.size) s s.heap ∧ va_OF "java/lang/String" "value" "[B" (.ref t) a (Az s.heap.size) s s.heap ∧ va_T .byte t 7 (fun j => .int ((txS 21).getD j 0)) (Az s.heap.size) s s.heap := by
  refine st_of (hn _ nw_719) (hn _ nw_720) (hn _ nw_721) (hn _ nw_722) (by decide) (fun j hj => ?_)
  have h : j = 0 ∨ j = 1 ∨ j = 2 ∨ j = 3 ∨ j = 4 ∨ j = 5 ∨ j = 6 := by omega
  rcases h with rfl | rfl | rfl | rfl | rfl | rfl | rfl
  · exact (hn _ nw_723)
  · exact (hn _ nw_724)
  · exact (hn _ nw_725)
  · exact (hn _ nw_726)
  · exact (hn _ nw_727)
  · exact (hn _ nw_728)
  · exact (hn _ nw_729)
def soS (i : Nat) : String := if i < 9 then "SofaRailway$Command" else "SofaRailwayModel"
def skS (i : Nat) : Nat := ([55, 61, 64, 67, 70, 73, 76, 79, 82, 239, 241, 243, 245, 247, 253, 255, 257, 259, 261, 263, 265, 267] : List Nat).getD i 0
def nmE (j : Nat) : String := (["BLOCK", "CUSHION", "LINK", "TRAIN", "GOAL", "CAT", "HOLD", "RESCUE", "TICK"] : List String).getD j ""
def snE (j : Nat) : Nat := ([55, 61, 64, 67, 70, 73, 76, 79, 82] : List Nat).getD j 0
theorem st_all {args : Array Value} {s : State} (hn : ∀ c ∈ flatC (Jvm.Cond.and given_1 narrow_1), c.before args s = true) : ∀ i, i < 22 → ∃ a t : Nat, (Term.string (soS i) (skS i)).eval args s none [] s = some (.ref a) ∧ va_O "java/lang/String" a (Az s.heap.size) s s.heap ∧ va_OF "java/lang/String" "coder" "B" (.int 0) a (Az s.heap.size) s s.heap ∧ va_OF "java/lang/String" "value" "[B" (.ref t) a (Az s.heap.size) s s.heap ∧ va_T .byte t (txS i).length (fun j => .int ((txS i).getD j 0)) (Az s.heap.size) s s.heap := by
  intro i hi
  have h : i = 0 ∨ i = 1 ∨ i = 2 ∨ i = 3 ∨ i = 4 ∨ i = 5 ∨ i = 6 ∨ i = 7 ∨ i = 8 ∨ i = 9 ∨ i = 10 ∨ i = 11 ∨ i = 12 ∨ i = 13 ∨ i = 14 ∨ i = 15 ∨ i = 16 ∨ i = 17 ∨ i = 18 ∨ i = 19 ∨ i = 20 ∨ i = 21 := by omega
  rcases h with rfl | rfl | rfl | rfl | rfl | rfl | rfl | rfl | rfl | rfl | rfl | rfl | rfl | rfl | rfl | rfl | rfl | rfl | rfl | rfl | rfl | rfl
  · exact st_0 hn
  · exact st_1 hn
  · exact st_2 hn
  · exact st_3 hn
  · exact st_4 hn
  · exact st_5 hn
  · exact st_6 hn
  · exact st_7 hn
  · exact st_8 hn
  · exact st_9 hn
  · exact st_10 hn
  · exact st_11 hn
  · exact st_12 hn
  · exact st_13 hn
  · exact st_14 hn
  · exact st_15 hn
  · exact st_16 hn
  · exact st_17 hn
  · exact st_18 hn
  · exact st_19 hn
  · exact st_20 hn
  · exact st_21 hn
theorem en_all {args : Array Value} {s : State} (hn : ∀ c ∈ flatC (Jvm.Cond.and given_1 narrow_1), c.before args s = true) {st : Nat → Nat} (hs : ∀ i, i < 22 → (Term.string (soS i) (skS i)).eval args s none [] s = some (.ref (st i))) : ∀ j, j < 9 → ∃ a : Nat, (Term.static "SofaRailway$Command" (nmE j) "LSofaRailway$Command;").eval args s none [] s = some (.ref a) ∧ va_O "SofaRailway$Command" a (Az s.heap.size) s s.heap ∧ va_OF "java/lang/Enum" "ordinal" "I" (.int (nI j)) a (Az s.heap.size) s s.heap ∧ va_OF "SofaRailway$Command" "form" "Ljava/lang/String;" (.ref (st j)) a (Az s.heap.size) s s.heap := by
  intro j hj
  have h : j = 0 ∨ j = 1 ∨ j = 2 ∨ j = 3 ∨ j = 4 ∨ j = 5 ∨ j = 6 ∨ j = 7 ∨ j = 8 := by omega
  rcases h with rfl | rfl | rfl | rfl | rfl | rfl | rfl | rfl | rfl
  · exact en_of (nm := "BLOCK") (k := 55) (j := 0) (hn _ nw_2) (hn _ nw_3) (hn _ nw_4) (hs 0 (by decide))
  · exact en_of (nm := "CUSHION") (k := 61) (j := 1) (hn _ nw_38) (hn _ nw_39) (hn _ nw_40) (hs 1 (by decide))
  · exact en_of (nm := "LINK") (k := 64) (j := 2) (hn _ nw_42) (hn _ nw_43) (hn _ nw_44) (hs 2 (by decide))
  · exact en_of (nm := "TRAIN") (k := 67) (j := 3) (hn _ nw_47) (hn _ nw_48) (hn _ nw_49) (hs 3 (by decide))
  · exact en_of (nm := "GOAL") (k := 70) (j := 4) (hn _ nw_53) (hn _ nw_54) (hn _ nw_55) (hs 4 (by decide))
  · exact en_of (nm := "CAT") (k := 73) (j := 5) (hn _ nw_60) (hn _ nw_61) (hn _ nw_62) (hs 5 (by decide))
  · exact en_of (nm := "HOLD") (k := 76) (j := 6) (hn _ nw_68) (hn _ nw_69) (hn _ nw_70) (hs 6 (by decide))
  · exact en_of (nm := "RESCUE") (k := 79) (j := 7) (hn _ nw_77) (hn _ nw_78) (hn _ nw_79) (hs 7 (by decide))
  · exact en_of (nm := "TICK") (k := 82) (j := 8) (hn _ nw_87) (hn _ nw_88) (hn _ nw_89) (hs 8 (by decide))
theorem com_at {args : Array Value} {s : State} (hn : ∀ c ∈ flatC (Jvm.Cond.and given_1 narrow_1), c.before args s = true) {ec : Nat → Nat} (he : ∀ j, j < 9 → (Term.static "SofaRailway$Command" (nmE j) "LSofaRailway$Command;").eval args s none [] s = some (.ref (ec j))) : ∃ t : Nat, (Jvm.Term.static "SofaRailway" "COMMANDS" "[LSofaRailway$Command;").eval args s none [] s = some (.ref t) ∧ va_T (.object "SofaRailway$Command") t 9 (fun j => .ref (ec j)) (Az s.heap.size) s s.heap := by
  refine va_Tof (f := fun j => .ref (ec j)) (by decide) (hn _ nw_9) (Cond.eq_int (hn _ nw_10) rfl) (fun j hj => ?_) (Az_no s)
  have h : j = 0 ∨ j = 1 ∨ j = 2 ∨ j = 3 ∨ j = 4 ∨ j = 5 ∨ j = 6 ∨ j = 7 ∨ j = 8 := by omega
  rcases h with rfl | rfl | rfl | rfl | rfl | rfl | rfl | rfl | rfl
  · exact Cond.eq_refs (hn _ nw_12) (he 0 (by decide)) rfl
  · exact Cond.eq_refs (hn _ nw_13) (he 1 (by decide)) rfl
  · exact Cond.eq_refs (hn _ nw_14) (he 2 (by decide)) rfl
  · exact Cond.eq_refs (hn _ nw_15) (he 3 (by decide)) rfl
  · exact Cond.eq_refs (hn _ nw_16) (he 4 (by decide)) rfl
  · exact Cond.eq_refs (hn _ nw_17) (he 5 (by decide)) rfl
  · exact Cond.eq_refs (hn _ nw_18) (he 6 (by decide)) rfl
  · exact Cond.eq_refs (hn _ nw_19) (he 7 (by decide)) rfl
  · exact Cond.eq_refs (hn _ nw_20) (he 8 (by decide)) rfl
theorem swm_at {args : Array Value} {s : State} (hn : ∀ c ∈ flatC (Jvm.Cond.and given_1 narrow_1), c.before args s = true) : ∃ t : Nat, (Jvm.Term.static "SofaRailway$1" "$SwitchMap$SofaRailway$Command" "[I").eval args s none [] s = some (.ref t) ∧ va_T .int t 9 (fun j => .int (nI (j + 1))) (Az s.heap.size) s s.heap := by
  refine va_Tof (f := fun j => .int (nI (j + 1))) (by decide) (hn _ nw_27) (Cond.eq_int (hn _ nw_28) rfl) (fun j hj => ?_) (Az_no s)
  have h : j = 0 ∨ j = 1 ∨ j = 2 ∨ j = 3 ∨ j = 4 ∨ j = 5 ∨ j = 6 ∨ j = 7 ∨ j = 8 := by omega
  rcases h with rfl | rfl | rfl | rfl | rfl | rfl | rfl | rfl | rfl
  · exact Cond.eq_int (hn _ nw_29) rfl
  · exact Cond.eq_int (hn _ nw_30) rfl
  · exact Cond.eq_int (hn _ nw_31) rfl
  · exact Cond.eq_int (hn _ nw_32) rfl
  · exact Cond.eq_int (hn _ nw_33) rfl
  · exact Cond.eq_int (hn _ nw_34) rfl
  · exact Cond.eq_int (hn _ nw_35) rfl
  · exact Cond.eq_int (hn _ nw_36) rfl
  · exact Cond.eq_int (hn _ nw_37) rfl
end JSTART

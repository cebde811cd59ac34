/-! THE CLAIM OUT OF ONE WALK OF THE LAW'S BODY. Your part is whole_start (and what it stands on); all else here is the same for every law, but numbers. -/
def R_law : String := "SofaRailwayLaw"
def lw_P (b : Addr) (xs : List Int32) (args : Array Value) (s : State) : Prop := args = #[.ref b] ∧ s.IntsAt b xs ∧ xs.length ≤ 260 ∧ (Jvm.Cond.and given_1 narrow_1).before args s = true
/-- what a walk over the start with the record d0 says of its end, said of the start itself -/
theorem lw_closed {s t : State} {o : Outcome} {d0 : Drawn} {L : List Loc} {k n : Nat} (hd0 : s.drawn.sameBut d0 lw_cs) (hv : ∃ v, o = .returned v) (hW : (s.setDrawn d0).WarmedH t.vm) (hs : (s.setDrawn d0).sameButNew ({ t with vm := s.vm } : State) L k n) : State.butDraws s t lw_cs (fun t1 => Framed s o t1 L k n) := by
  have h2 : t.drawn = d0 := congrArg State.drawn hs.1
  refine ⟨⟨hv, hW, State.sameButNew.setDrawn hs s.drawn⟩, ?_, by decide⟩
  rw [h2]
  exact hd0
def lw_Q (_ : Array Value) (s : State) (o : Outcome) (t : State) : Prop := o = .returned (some (.int 1)) ∧ State.butDraws s t lw_cs (fun t1 => Framed s o t1 [] 713521 6943338)
def lw_Z (below : List Frame) (a : Array Value) (s : State) : State → Prop := fun t => ∃ o, t.status = .running ∧ Ended t below o ∧ lw_Q a s o t
/-- the law's own end, with 1 on the stack, nothing written that was there before, its room as the claim has it; d0: the record of draws at this point (at the entry s.drawn: begin with 'refine W.base ?_' and 'have hd0 := Drawn.sameBut.refl s.drawn lw_cs') -/
theorem lw_ret {p : Program} {l : Launch} {e : Env} {s : State} {m : MethodId} {below : List Frame} {meth : Method} {c : Code} {b : Nat} {d0 : Drawn} (hd0 : s.drawn.sameBut d0 lw_cs) (hx : p.tables.exec = Jvm.exec) (hb : c.code = code) (hr : meth.sig.returnType = ret) (hlocks : meth.locks = false) {pc : Nat} {H : Heap} {ls : Array Slot} (hdg : decode code pc = .ok (.ireturn, 1)) : W p l e room_1 (s.setDrawn d0) m #[Value.ref b] below meth c H [] 713521 6943338 (lw_Z below #[Value.ref b] s) (F0 m pc ls [.int 1]) := by
  intro T hT X
  obtain ⟨fs, hret, hrun, hended, hW, hframe⟩ := X.leave (v := some (.int 1)) (hlocks := hlocks) (fun h => by rw [hr] at h; cases h)
  have hmeth' : T.vm.method? m = some meth := X.method'
  refine ⟨T.setFrames fs, ?_, .returned (some (.int 1)), hrun, hended, rfl, lw_closed hd0 ⟨_, rfl⟩ hW hframe⟩
  jvm_step X.here [X.here.top, hx, hb, hdg, hmeth', hr, ret, narrow_b1]
  (try refine ⟨rfl, ?_⟩); (try refine ⟨rfl, ?_⟩)
  first | (intro acts; rw [hret _ acts rfl rfl rfl]) | rw [hret _ _ rfl rfl rfl]
  exact Steps.refl _
/-- what holds at the law's entry: the machine, the code, the tables' words (any of lw_tbl by 'hts w (by decide +kernel)'), the script of L ints xs at the cell b, what the Statement gives of the start (any of its parts by flat_of_before) -/
def lw_At (p : Program) (s : State) (m : MethodId) (meth : Method) (c : Code) (b L : Nat) (xs : Nat → Int32) : Prop :=
  p.tables.exec = Jvm.exec ∧ c.code = code ∧ meth.sig.returnType = ret ∧ c.maxLocals = 19 ∧ s.vm.findClass R_law = some m.cls ∧ (∀ w ∈ lw_tbl, w.before #[Value.ref b] s = true) ∧ va_X b L xs s s.heap ∧ b < s.heap.size ∧ meth.locks = false ∧ (Jvm.Cond.and given_1 narrow_1).before #[Value.ref b] s = true ∧ meth.name = yL_law.name ∧ c.exceptionTable.toList = tableOf []
theorem uwl_RJx00060 : ∀ w ∈ u_ws RJx00060 TJx00060 6, w ∈ lw_tbl := by decide +kernel
theorem sel_sub {y : MethodName} {s : State} {args : Array Value} {n : Nat} (hcls : y.cls = RJ5) (hy : y.cls ≠ "java/lang/invoke/MethodHandle" ∧ y.cls ≠ "java/lang/invoke/VarHandle") (hins : (Cond.instantiable RJ4 n).before args s = true) (hpriv : (Cond.privateMethod y).before args s = true) (hinst : (Cond.instanceMethod y).before args s = true) (hlat : (Cond.selects RJ4 yJ5_isLatin1_aae02 yJ5_isLatin1_aae02).before args s = true) : (Cond.selects RJ4 y y).before args s = true := by
  obtain ⟨c, k, hc, hk, -⟩ := Cond.instantiable_spec hins
  obtain ⟨mk, methM, hnamed, hmethM, -, -⟩ := Cond.instanceMethod_spec hinst
  have hfound : s.methodFound? y.cls y.name y.desc = some mk := State.methodFound?_of_named hnamed hy
  have hsel : selectMethod {} s.vm c mk = .method mk := selectMethod_private hmethM (Cond.privateMethod_at hpriv mk methM hnamed hmethM)
  obtain ⟨c2, r2, m2, -, -, hm2, -, k2, hk2, hi2⟩ := Cond.selects_spec hlat
  have e1 := findClass_of_methodNamed hm2
  have e2 := findClass_of_methodNamed hnamed
  rw [hcls] at e2
  have e : m2.cls = mk.cls := Option.some.inj (e1.symm.trans e2)
  rw [e] at hk2
  simp only [Cond.before, Cond.holds, Cond.value, hc, hfound, hnamed, hsel, hk2]
  simp
  exact hi2
theorem sub_ok {args : Array Value} {s : State} (hts : ∀ w ∈ lw_tbl, w.before args s = true) : ∀ w ∈ lw_sub, w.before args s = true := by
  have hi : (Cond.instantiable RJ4 4).before args s = true := hts _ (T3 (List.mem_of_getElem? (i := 235) rfl))
  have hl : (Cond.selects RJ4 yJ5_isLatin1_aae02 yJ5_isLatin1_aae02).before args s = true := hts _ (T4 (List.mem_of_getElem? (i := 71) rfl))
  intro w hw
  simp only [lw_sub, List.map_cons, List.map_nil, List.mem_cons, List.not_mem_nil, or_false] at hw
  rcases hw with rfl | rfl | rfl | rfl | rfl | rfl
  · exact sel_sub rfl ⟨by decide, by decide⟩ hi (hts _ (T4 (List.mem_of_getElem? (i := 34) rfl))) (hts _ (T4 (List.mem_of_getElem? (i := 35) rfl))) hl
  · exact sel_sub rfl ⟨by decide, by decide⟩ hi (hts _ (T4 (List.mem_of_getElem? (i := 38) rfl))) (hts _ (T4 (List.mem_of_getElem? (i := 39) rfl))) hl
  · exact sel_sub rfl ⟨by decide, by decide⟩ hi (hts _ (T4 (List.mem_of_getElem? (i := 42) rfl))) (hts _ (T4 (List.mem_of_getElem? (i := 43) rfl))) hl
  · exact sel_sub rfl ⟨by decide, by decide⟩ hi (hts _ (T4 (List.mem_of_getElem? (i := 109) rfl))) (hts _ (T4 (List.mem_of_getElem? (i := 110) rfl))) hl
  · exact sel_sub rfl ⟨by decide, by decide⟩ hi (hts _ (T4 (List.mem_of_getElem? (i := 113) rfl))) (hts _ (T4 (List.mem_of_getElem? (i := 114) rfl))) hl
  · exact sel_sub rfl ⟨by decide, by decide⟩ hi (hts _ (T4 (List.mem_of_getElem? (i := 118) rfl))) (hts _ (T4 (List.mem_of_getElem? (i := 119) rfl))) hl
theorem ac_K {args : Array Value} {s : State} {ty : FieldType} (h : (Cond.arrayClass ty).before args s = true) : ∃ c : ClassId, ArrOfT s c ty ∧ s.vm.findClass ("[" ++ ty.toString) = some c := by
  obtain ⟨c, k, comp, h1, h2, h3⟩ := Cond.arrayClass_spec (args := args) (first := s) (o := none) (s := s) (idx := []) h
  exact ⟨c, fun n z => ⟨fun k e => (by cases e), k, h2, comp, h3⟩, h1⟩
theorem ao_K {args : Array Value} {s : State} {C : String} (h : (Cond.arrayOver (.object C)).before args s = true) : ∃ c : ClassId, ArrOfT s c (.object C) ∧ va_RA s c (.object C) := by
  obtain ⟨comp, c, k, h1, -, h2, h3, h4⟩ := Cond.arrayOver_spec (args := args) (first := s) (o := none) (s := s) (idx := []) h
  exact ⟨c, fun n z => ⟨fun k e => (by cases e), k, h2, comp, h3⟩, k, comp, h2, h3, h1, h4⟩
theorem aa_K {args : Array Value} {s : State} (h : (Cond.arrayOver (.array .int)).before args s = true) : ∃ c : ClassId, ArrOfT s c (.array .int) ∧ s.vm.findClass ("[" ++ (FieldType.array .int).toString) = some c := by
  obtain ⟨comp, c, k, h1, -, h2, h3, h4⟩ := arrayOver_specB (args := args) (first := s) (o := none) (s := s) (idx := []) h
  exact ⟨c, fun n z => ⟨fun k e => (by cases e), k, h2, comp, h3⟩, h4⟩
theorem va_K_at {args : Array Value} {s : State} (hts : ∀ w ∈ lw_tbl, w.before args s = true) : ∃ (D : va_G) (dA : Nat → ClassId), va_K D vwCl (tyL dA) s := by
  have hA : ∀ w ∈ AL, w.before args s = true := AL_ok hts (sub_ok hts)
  have hc : ∀ k : Nat, ∃ (c : ClassId) (i : Nat → Nat), ∀ q : vw_C, vwCl[k]? = some q → u_Kn s q.1 q.2.1 q.2.2 c i := fun k => match k with
    | 0 => by
      obtain ⟨c, i, h⟩ := u_known (C := RJ0) (T := TJ0) (N := 4) (n := 4) hA uwJ0 (hA _ w2_121)
      exact ⟨c, i, fun q hq => by cases hq; exact h⟩
    | 1 => by
      obtain ⟨c, i, h⟩ := u_known (C := RJx00060) (T := TJx00060) (N := 6) (n := 6) hts uwl_RJx00060 (hts _ (T2 (List.mem_of_getElem? (i := 48) rfl)))
      exact ⟨c, i, fun q hq => by cases hq; exact h⟩
    | 2 => by
      obtain ⟨c, i, h⟩ := u_known (C := RX2) (T := TX2) (N := 7) (n := 7) hA uwX2 (hA _ w1_180)
      exact ⟨c, i, fun q hq => by cases hq; exact h⟩
    | 3 => by
      obtain ⟨c, i, h⟩ := u_known (C := RX3) (T := TX3) (N := 3) (n := 3) hA uwX3 (hA _ w1_123)
      exact ⟨c, i, fun q hq => by cases hq; exact h⟩
    | 4 => by
      obtain ⟨c, i, h⟩ := u_known (C := RX4) (T := TX4) (N := 15) (n := 15) hA uwX4 (hA _ w1_42)
      exact ⟨c, i, fun q hq => by cases hq; exact h⟩
    | 5 => by
      obtain ⟨c, i, h⟩ := u_known (C := RX5) (T := TX5) (N := 2) (n := 2) hA uwX5 (hA _ w1_215)
      exact ⟨c, i, fun q hq => by cases hq; exact h⟩
    | 6 => by
      obtain ⟨c, i, h⟩ := u_known (C := RX6) (T := TX6) (N := 3) (n := 3) hA uwX6 (hA _ w1_143)
      exact ⟨c, i, fun q hq => by cases hq; exact h⟩
    | 7 => by
      obtain ⟨c, i, h⟩ := u_known (C := RX7) (T := TX7) (N := 3) (n := 3) hA uwX7 (hA _ w1_162)
      exact ⟨c, i, fun q hq => by cases hq; exact h⟩
    | 8 => by
      obtain ⟨c, i, h⟩ := u_known (C := RX8) (T := TX8) (N := 11) (n := 11) hA uwX8 (hA _ w1_34)
      exact ⟨c, i, fun q hq => by cases hq; exact h⟩
    | 9 => by
      obtain ⟨c, i, h⟩ := u_known (C := RJ4) (T := TJ4) (N := 4) (n := 4) hA uwJ4 (hA _ w3_235)
      exact ⟨c, i, fun q hq => by cases hq; exact h⟩
    | n + 10 => ⟨0, fun _ => 0, fun q hq => by simp at hq⟩
  obtain ⟨c0, a0, b0⟩ := ac_K (hA _ ac_int)
  obtain ⟨c1, a1, b1⟩ := ac_K (hA _ ac_char)
  obtain ⟨c2, a2, b2⟩ := ac_K (hA _ w6_160)
  obtain ⟨c3, a3, b3⟩ := ac_K (hA _ ac_byte)
  obtain ⟨c4, a4, b4⟩ := ao_K (C := RX4) (hts _ (T1 (List.mem_of_getElem? (i := 129) rfl)))
  obtain ⟨c5, a5, b5⟩ := aa_K (hts _ (T6 (List.mem_of_getElem? (i := 69) rfl)))
  refine ⟨(fun k => Classical.choose (hc k), fun k => Classical.choose (Classical.choose_spec (hc k))), fun k => if k = 0 then c0 else if k = 1 then c1 else if k = 2 then c2 else if k = 3 then c3 else if k = 4 then c4 else c5, fun k q hq => Classical.choose_spec (Classical.choose_spec (hc k)) q hq, fun k q hq => ?_⟩
  match k, hq with
  | 0, hq => cases hq; exact ⟨a0, b0⟩
  | 1, hq => cases hq; exact ⟨a1, b1⟩
  | 2, hq => cases hq; exact ⟨a2, b2⟩
  | 3, hq => cases hq; exact ⟨a3, b3⟩
  | 4, hq => cases hq; exact ⟨a4, b4⟩
  | 5, hq => cases hq; exact ⟨a5, b5⟩
  | n + 6, hq => simp [tyL] at hq
/-- from the entry, for every script of at most 260 ints, the law comes to its end with true -/
theorem whole_start {p : Program} {e : Env} {s : State} {m : MethodId} {below : List Frame} {meth : Method} {c : Code} (l : Launch) (hflags : l.flags = flags0) {b L : Nat} {xs : Nat → Int32} (hL : L ≤ 260) (C0 : lw_At p s m meth c b L xs) : W p l e room_1 s m #[Value.ref b] below meth c s.heap [] 0 0 (lw_Z below #[Value.ref b] s) (entryFrame m ([Value.ref b] : List Value).toArray 19) := by
  obtain ⟨hx, hb, hr, hml, hown, hts, hX, hbl, hlocks, hgv, hnm, htab⟩ := id C0
  have hn := flat_of_before _ hgv
  obtain ⟨D, dA, hK⟩ := va_K_at hts
  obtain ⟨sa, hsa, hSF⟩ := SF_at hn hts hL hX hbl
  have hfl : l.stackTraces = false := by unfold Launch.stackTraces; rw [hflags]; decide
  have C : Cx 60 mL_law p l room_1 s m #[Value.ref b] meth c s.heap.size sa D dA := ⟨⟨hx, hb, hml, hown, AL_ok hts (sub_ok hts)⟩, hr, hlocks, hnm, htab, hfl, ⟨by decide, by decide⟩, hK, hSF, Nat.le_refl _⟩
  have hl := lc0_rel (sa := sa) (z := s.heap.size) (nL := 19) (av := [.ref 3]) (fun v hv => by simp only [List.mem_cons, List.not_mem_nil, or_false] at hv; subst hv; rfl) (by decide)
  rw [show ([Value.ref 3] : List Value).map (mv sa s.heap.size) = [.ref b] from by show [Value.ref (adr sa _ 3)] = _; rw [adr_lt (by decide), hsa]] at hl
  have main := lw_main (Q := fun r _ => r = .inl (some (.int 1))) (w := ((fun _ => dead), 0, true)) (fun _ => rfl) rfl rfl
  rw [lg_entry_eq]
  refine main p l e room_1 s m #[Value.ref b] below meth c s.heap.size sa D dA (lw_Z below #[Value.ref b] s) 713521 6943338 C ?_ ?_ ?_ (Nat.le_refl _) (Nat.le_refl _) s.heap [] 0 0 _ ⟨fun _ => rfl, fun a => Or.inl rfl⟩ va_S.rf hl (by decide) (by decide)
  · intro v w H locs pc ls i hq hR hS hret hdec
    cases hq
    rcases hret with ⟨rfl, h, -⟩ | ⟨rfl, -⟩ | ⟨rfl, x, h, -⟩ | ⟨rfl, x, h, -⟩ | ⟨rfl, x, h, -⟩ | ⟨rfl, a, ty, h, -⟩
    · cases h
    · rw [hb] at hdec
      have k : W p l e room_1 s m #[Value.ref b] below meth c H [] 713521 6943338 (lw_Z below #[Value.ref b] s) (F0 m pc ls [.int 1]) := lw_ret (d0 := s.drawn) (Drawn.sameBut.refl s.drawn lw_cs) hx hb hr hlocks hdec
      have k2 := W.forget (L := locs) (fun q h => hS.2.2 q h) k
      rw [List.nil_append] at k2
      exact k2
    · cases h
    · cases h
    · cases h
    · cases h
  · intro E w H locs pc ls rest q ce hq
    cases hq
  · intro E w H locs cells slots pc ls hq
    cases hq
-- ===== YOUR PART ENDS =====
set_option maxHeartbeats 4000000 in
theorem lw_walk (l : Launch) (hflags : l.flags = flags0) (b : Addr) (xs : List Int32) : MetFree l x (headSpec (Jvm.Cond.code x code maxLocals ret :: tables_1) room_1) (lw_P b xs) (fun _ _ _ _ _ => True) lw_Q := by
  refine MetFree.of_bodyS (code := code) (maxLocals := maxLocals) (ret := ret) (by decide) ?_ ?_
  · intro args s m h hn
    obtain ⟨meth, c, h1, h2, h3, h4, h5, h6, -, -⟩ := Cond.code_spec hn (atoms_spec (ws := Jvm.Cond.code x code maxLocals ret :: tables_1) h _ List.mem_cons_self)
    exact ⟨meth, c, h1, h2, h3, h4, h5, h6⟩
  · intro p e s m args below meth c s₁ B hml0 hP _
    obtain ⟨rfl, hx, hbd, hgv⟩ := hP
    obtain ⟨scr, harrAt, hlist, hof, hsmall⟩ := hx
    obtain ⟨hcb, hkn, -, -⟩ := State.arrayAt?_spec harrAt
    have hown : s.vm.findClass R_law = some m.cls := findClass_of_methodNamed B.named
    have hts0 : ∀ c ∈ (Jvm.Cond.code x code maxLocals ret :: tables_1), c.before #[Value.ref b] s = true := atoms_spec (ws := Jvm.Cond.code x code maxLocals ret :: tables_1) B.pre
    have hts : ∀ w ∈ lw_tbl, w.before #[Value.ref b] s = true := k2_hts_sels lw_privs (fun w hw => hts0 w (List.mem_cons_of_mem _ hw)) lw_privs_ok
    have hml : c.maxLocals = 19 := B.maxLocals_eq (hts0 _ List.mem_cons_self)
    have X₀ : Stand p l e room_1 s m #[Value.ref b] below meth c s₁ [] 0 0 := Stand.of_body B
    have hh0 : s₁.heap = s.heap := by rw [B.state]; rfl
    have hsz : scr.slots.size = xs.length := by rw [← Array.length_toList, hlist, List.length_map]
    have hval : ∀ j : Nat, j < xs.length → scr.slots[j]? = some (.int (xs.getD j 0)) := fun j hj => by
      rw [← Array.getElem?_toList, hlist]
      simp [hj]
    have hbl : b < s.heap.size := (Array.getElem?_eq_some_iff.mp hcb).1
    have hX : va_X b xs.length (fun j => xs.getD j 0) s s.heap := ⟨scr, hcb, hof, hkn, hsz, hval⟩
    have htab : c.exceptionTable.toList = tableOf [] := by
      obtain ⟨meth9, c9, h1, h2, -, -, -, -, h7, -⟩ := Cond.code_spec B.named (hts0 _ List.mem_cons_self)
      cases Option.some.inj (h1.symm.trans B.method)
      cases Option.some.inj (h2.symm.trans X₀.code)
      rw [Array.isEmpty_iff.mp h7]
      rfl
    have K : W p l e room_1 s m #[Value.ref b] below meth c s₁.heap [] 0 0 (lw_Z below #[Value.ref b] s) (entryFrame m ([Value.ref b] : List Value).toArray 19) := by
      rw [hh0]
      exact whole_start l hflags hbd ⟨B.exec, B.bytes, B.returns, hml, hown, hts, hX, hbl, B.notSynchronized, hgv, (name_of_methodNamed B.named B.method).1, htab⟩
    obtain ⟨t, a1, o, b1, b2, b3⟩ := K s₁ rfl X₀
    exact ⟨t, o, a1, b1, b2, b3⟩
theorem lw_pre_spec {args : Array Value} {s : State} (h : (Jvm.Cond.and given_1 narrow_1).before args s = true) (hr : rest_1_c.before args s = true) : ∃ (b : Addr) (xs : List Int32), lw_P b xs args s := by
  have hs := flat_of_before _ h
  have hq := flat_of_before _ hr
  have hc : (Cond.count 1).before args s = true := hs _ (by decide +kernel)
  have harr : (Cond.arrayOf (.arg 0) .int).before args s = true := hs _ (by decide +kernel)
  have hle : (Cond.le (.length (.arg 0)) (.int 260)).before args s = true := hs _ (by decide +kernel)
  have hlen : (Cond.isInt (.length (.arg 0))).before args s = true := hq _ (by decide +kernel)
  have hall : (Cond.all (.arg 0) (.isInt (.elem (.arg 0) (.index 0)))).before args s = true := hq _ (by decide +kernel)
  obtain ⟨b, xs, hb, hx⟩ := State.ints_of_pre rfl harr hlen hall
  have hsm : xs.length < 2 ^ 31 := hx.choose_spec.2.2.2
  have hev : (Term.length (.arg 0)).eval args s none [] s = some (.int xs.length.toInt32) := hx.length_eval hb
  have hv := Cond.le_ints hev (show (Term.int 260).eval args s none [] s = some (.int 260) from rfl)
  have hd : xs.length.toInt32 ≤ 260 := by
    simpa [Cond.before, Cond.holds, hv] using hle
  have hN : xs.length ≤ 260 := (Int32.ofNat_le_ofNat hsm (by decide)).mp (show Int32.ofNat xs.length ≤ Int32.ofNat 260 from hd)
  exact ⟨b, xs, Cond.one_arg hc (show args[0]? = some (.ref b) from hb), hx, hN, h⟩
theorem lw_comes (l : Launch) (hflags : l.flags = flags0) : Comes l x (Jvm.Cond.code x code maxLocals ret :: tables_1) room_1 (fun tb e args s => Calls_1 tb e args s ∧ rest_1 tb e args s ∧ Pre_1 tb e args s)
    (fun _ _ args s o t => lw_Q args s o t) := by
  intro p e ha hc hk s m args below hf hfit hheap happ hpre
  obtain ⟨b, xs, hP⟩ := lw_pre_spec hpre.2.2 hpre.2.1
  obtain ⟨k, o, h1, h2, h3, hQ⟩ := lw_walk l hflags b xs p e ha hc hk s m args below hf ((Spec.applies_iff_loose hf).mp happ).1 hP trivial
  exact ⟨k, o, h1, h2, h3, hQ⟩
theorem lw_frame {s t : State} {o : Outcome} {args : Array Value} (h : State.butDraws s t lw_cs (fun t1 => Framed s o t1 [] 713521 6943338)) :
    State.butDraws s t [Jvm.Choice.named "NaN.bits"] (fun t1 => Framed s o t1 (fieldLocs frame_1_writes args s ++ arrayLocs frame_1_arrays args s ++ staticLocs frame_1_statics s) 713521 6943338) := h
theorem lw_limb (L : Cond) (hL : ∀ (args : Array Value) (s t : State), L.after args s (.returned (some (.int 1))) t = true) :
    ArmFor flags0 classFile x code maxLocals ret World_1 tables_1 room_1 Calls_1 rest_1 Pre_1
      (fun tb e a s o t => postC L tb e a s o t ∧ State.butDraws s t [Jvm.Choice.named "NaN.bits"] (fun t1 => Framed s o t1 (fieldLocs frame_1_writes a s ++ arrayLocs frame_1_arrays a s ++ staticLocs frame_1_statics s) 713521 6943338)) := by
  intro l hflags _ _ p e ha hc hk s m args below hf hfit hheap happ hpre
  obtain ⟨k, o, h1, h2, h3, rfl, hF⟩ := lw_comes l hflags p e ha hc hk s m args below hf hfit hheap happ hpre
  exact ⟨k, _, h1, h2, h3, hL args s _, lw_frame hF⟩
theorem i_vc : Claimed_1_1 ∧ Claimed_1_2 := ⟨lw_limb limb_1_1 (fun args s t => by simp [limb_1_1, Cond.after, Cond.holds, Cond.value]), lw_limb limb_1_2 (fun args s t => Cond.after_iff.mpr (by
  first | (rw [show limb_1_2 = Cond.eq .result (.int 1) from rfl, Cond.eq_ints (x := 1) (y := 1) rfl rfl]; simp; done) | (simp [limb_1_2, Cond.value, Term.eval]; done)))⟩

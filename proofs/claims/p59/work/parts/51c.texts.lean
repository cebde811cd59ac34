/-! TEXTS THAT ARE MADE: builders of sixteen letters at most -/
section JTXB
theorem nd_r9 {fs : List Value} : (Sum.inr (9, fs) : Ce) ≠ dead := fun h => by
  injection h with h
  injection h with h1
  exact absurd h1 (by decide)
theorem nd_r0 {fs : List Value} : (Sum.inr (0, fs) : Ce) ≠ dead := fun h => by
  injection h with h
  injection h with h1
  exact absurd h1 (by decide)
/-- all but two cells are kept, and what lives below what lives -/
def KB (w w' : Wd) (b a : Nat) : Prop := (∀ e, w.1 e ≠ dead → w'.1 e ≠ dead) ∧ ∀ c, (∃ e, c ≤ e ∧ w.1 e ≠ dead) → c ≠ b → c ≠ a → w'.1 c = w.1 c
theorem KB.rf (w : Wd) (b a : Nat) : KB w w b a := ⟨fun _ h => h, fun _ _ _ _ => rfl⟩
theorem KB.tr {w w1 w2 : Wd} {b a : Nat} (h1 : KB w w1 b a) (h2 : KB w1 w2 b a) : KB w w2 b a := ⟨fun e h => h2.1 e (h1.1 e h), fun c ⟨e, e1, e2⟩ g1 g2 => (h2.2 c ⟨e, e1, h1.1 e e2⟩ g1 g2).trans (h1.2 c ⟨e, e1, e2⟩ g1 g2)⟩
theorem KB.new {w w' : Wd} {q : Nat} {c : Ce} (h : NewC w w' q c) (hc : c ≠ dead) (b a : Nat) : KB w w' b a := ⟨fun e he => by
  by_cases g : e = q
  · rw [g, h.1]; exact hc
  · rw [h.2.2.1 e g]; exact he, fun c ⟨e, e1, e2⟩ _ _ => h.2.2.1 c (by have := h.2.2.2.2 e e2; omega)⟩
theorem KB.up {w w' : Wd} {q : Nat} {c : Ce} (h : Up w w' q c) (hc : c ≠ dead) {b a : Nat} (hq : q = b ∨ q = a) : KB w w' b a := ⟨fun e he => by
  by_cases g : e = q
  · rw [g, h.1]; exact hc
  · rw [h.2.1 e g]; exact he, fun c _ g1 g2 => h.2.1 c (by omega)⟩
/-- a change of a cell that is new -/
theorem KB.upn {w w1 w2 : Wd} {q b a : Nat} {c c2 : Ce} (h1 : KB w w1 b a) (hq : ∀ e, w.1 e ≠ dead → e < q) (h : Up w1 w2 q c2) (hc : c2 ≠ dead) : KB w w2 b a := ⟨fun e he => by
  rw [h.2.1 e (by have := hq e he; omega)]
  exact h1.1 e he, fun c ⟨e, e1, e2⟩ g1 g2 => (h.2.1 c (by have := hq e e2; omega)).trans (h1.2 c ⟨e, e1, e2⟩ g1 g2)⟩
theorem NewC.up {w w1 w2 : Wd} {q : Nat} {c c2 : Ce} (h : NewC w w1 q c) (u : Up w1 w2 q c2) : NewC w w2 q c2 := ⟨u.1, h.2.1, fun b hb => (u.2.1 b hb).trans (h.2.2.1 b hb), h.2.2.2.1, h.2.2.2.2⟩
/-- a builder at b whose row of bytes is a, with n letters -/
def SBo (w : Wd) (b a n : Nat) : Prop := ∃ (f : Nat → Int32) (y : Value), w.1 b = .inr (9, [.ref a, .int 0, y, .int (nI n)]) ∧ w.1 a = .inl (3, 16, .inl f) ∧ sb_Fit f ∧ n ≤ 16 ∧ a ≠ b
def UpB (w w' : Wd) (a : Nat) : Prop := ∃ g : Nat → Int32, Up w w' a (.inl (3, 16, .inl g)) ∧ sb_Fit g
theorem SBo.upB {w w' : Wd} {b a n : Nat} (h : SBo w b a n) (u : UpB w w' a) : SBo w' b a n := by
  obtain ⟨f, y, h1, h2, h3, h4, h5⟩ := h
  obtain ⟨g, u1, u2⟩ := u
  exact ⟨g, y, (u1.2.1 b (Ne.symm h5)).trans h1, u1.1, u2, h4, h5⟩
theorem UpB.kb {w w' : Wd} {a b : Nat} (u : UpB w w' a) : KB w w' b a := by
  obtain ⟨g, u1, u2⟩ := u
  exact KB.up u1 nd_l (Or.inr rfl)
theorem Up.tr {w w1 w2 : Wd} {a : Nat} {c c2 : Ce} (h : Up w w1 a c) (k : Up w1 w2 a c2) : Up w w2 a c2 := ⟨k.1, fun b hb => (k.2.1 b hb).trans (h.2.1 b hb), k.2.2.trans h.2.2⟩
theorem SBo.rc {w : Wd} {b a n : Nat} (h : SBo w b a n) : Rc w b RJ4 := by
  obtain ⟨f, y, h1, -⟩ := h
  exact rc_of h1 rfl
theorem SBo.kb {w w' : Wd} {b a n b2 a2 : Nat} (h : SBo w b a n) (k : KB w w' b2 a2) (h1 : b ≠ b2 ∧ b ≠ a2) (h2 : a ≠ b2 ∧ a ≠ a2) : SBo w' b a n := by
  obtain ⟨f, y, g1, g2, g3⟩ := h
  exact ⟨f, y, (k.2 b ⟨b, Nat.le_refl _, by rw [g1]; exact nd_r9⟩ h1.1 h1.2).trans g1, (k.2 a ⟨a, Nat.le_refl _, by rw [g2]; exact nd_l⟩ h2.1 h2.2).trans g2, g3⟩
theorem SBo.lv {w : Wd} {b a n : Nat} (h : SBo w b a n) : w.1 b ≠ dead ∧ w.1 a ≠ dead := by
  obtain ⟨f, y, g1, g2, g3⟩ := h
  exact ⟨by rw [g1]; exact nd_r9, by rw [g2]; exact nd_l⟩
/-- a text at s whose row of bytes is v, with n letters -/
def VStr (w : Wd) (s v n : Nat) (f : Nat → Int32) : Prop := BSrc w v n f ∧ ((∃ i, i < 16 ∧ s = 20 + i ∧ v = 50 + i) ∨ ∃ y z, w.1 s = .inr (0, [.ref v, .int 0, y, z]))
theorem tx_fit : ∀ i, i < 16 → ∀ j, j < 9 → fits .byte (.int ((txS i).getD j 0)) = true := by decide +kernel
theorem VStr.co (w : Wd) {i : Nat} (hi : i < 16) : VStr w (20 + i) (50 + i) (txS i).length (fun j => (txS i).getD j 0) := by
  have h := tx_len i hi
  exact ⟨⟨Or.inr ⟨by omega, SFT_by hi⟩, fun j hj => tx_fit i hi j (by omega), by omega⟩, Or.inl ⟨i, hi, rfl, rfl⟩⟩
theorem VStr.rc {w : Wd} {s v n : Nat} {f : Nat → Int32} (h : VStr w s v n f) : Rc w s RJ0 := by
  rcases h.2 with ⟨i, hi, rfl, rfl⟩ | ⟨y, z, e⟩
  · exact Rc_st hi
  · exact rc_of e rfl
section
variable {d : Nat} {mi : MI} {pc : Nat} {lc : List (Option Value)} {st : List Value} {w : Wd} {kb sb : Nat} {Q : Po}
theorem K_strv {idx s v n fin : Nat} {f : Nat → Int32} (hd : decode mi.2.1 pc = .ok (.getfield idx, 3)) (g1 : Cond.fieldLink mi.1.cls idx "java/lang/String" "value" "[B" ∈ AL) (g2 : FL mi.1.cls idx 0 0 (.array .byte) fin) (hs : VStr w s v n f) (kk : J d mi (pc + 3) lc (.ref v :: st) w kb sb Q) : J d mi pc lc (.ref s :: st) w kb sb Q := by
  rcases hs.2 with ⟨i, hi, rfl, rfl⟩ | ⟨y, z, e⟩
  · exact J_sgetf hd (SFF_va hi) (sv_r (by omega)) (by omega) g1 kk
  · exact J_getfield hd g2 e rfl kk
theorem K_strc {idx s v n fin : Nat} {f : Nat → Int32} (hd : decode mi.2.1 pc = .ok (.getfield idx, 3)) (g1 : Cond.fieldLink mi.1.cls idx "java/lang/String" "coder" "B" ∈ AL) (g2 : FL mi.1.cls idx 0 1 .byte fin) (hs : VStr w s v n f) (kk : J d mi (pc + 3) lc (.int 0 :: st) w kb sb Q) : J d mi pc lc (.ref s :: st) w kb sb Q := by
  rcases hs.2 with ⟨i, hi, rfl, rfl⟩ | ⟨y, z, e⟩
  · exact J_sgetf hd (SFF_co hi) rfl (by omega) g1 kk
  · exact J_getfield hd g2 e rfl kk
theorem RPk {QY : Option Value → Wd → Prop} {r : Option Value} {w' : Wd} (q : RP QY (.inl r) w') : QY r w' := by
  obtain ⟨v, e, q⟩ := q
  cases e
  exact q
theorem K_tV {idx n d' kb' sb' : Nat} {y : MI} {a : Nat} {As st0 : List Value} {QY : Option Value → Wd → Prop} (hd : decode mi.2.1 pc = .ok (.invokevirtual idx, 3)) (hY : YL y n) (hL : Cond.methodLink mi.1.cls idx y.1 ∈ AL ∧ Cond.instanceMethod y.1 ∈ AL ∧ Cond.selects y.1.cls y.1 y.1 ∈ AL) (hrec : Rc w a y.1.cls) (hM : MC d' y kb' sb' (.ref a :: As) w (RP QY)) (hn : As.length = n) (hst : st0 = As.reverse ++ .ref a :: st) (hcat : (st.map fun v => v.category).sum ≤ 8) (hdd : d' + 1 ≤ d) (kk : ∀ v w', QY v w' → J d mi (pc + 3) lc (v.toList ++ st) w' kb sb Q) : J d mi pc lc st0 w (kb + kb') (sb + sb') Q :=
  J_callV hd hY hL hrec hM hn hst hcat hdd (fun v' w' q => kk _ _ (RPk q)) (fun E w' q => absurd q (RP_no E w'))
theorem K_tU {idx n d' kb' sb' : Nat} {y : MI} {x : MethodName} {CC : String} {a : Nat} {As st0 : List Value} {QY : Option Value → Wd → Prop} (hd : decode mi.2.1 pc = .ok (.invokevirtual idx, 3)) (hY : YL y n) (hyx : y.1 = ⟨y.1.cls, x.name, x.desc⟩) (hL : Cond.methodLink mi.1.cls idx x ∈ AL ∧ Cond.sameMethod x.cls y.1.cls x.name x.desc ∈ AL ∧ Cond.selects CC x y.1 ∈ AL ∧ Cond.instanceMethod y.1 ∈ AL) (hrec : Rc w a CC)
    (hM : MC d' y kb' sb' (.ref a :: As) w (RP QY)) (hn : As.length = n) (hst : st0 = As.reverse ++ .ref a :: st) (hcat : (st.map fun v => v.category).sum ≤ 8) (hdd : d' + 1 ≤ d) (kk : ∀ v w', QY v w' → J d mi (pc + 3) lc (v.toList ++ st) w' kb sb Q) : J d mi pc lc st0 w (kb + kb') (sb + sb') Q :=
  J_callU hd hY hyx hL hrec hM RP_no hn hst hcat hdd (fun v' w' q => kk _ _ (RPk q))
theorem K_tSU {idx n d' kb' sb' : Nat} {y : MI} {a b c : Nat} {As st0 : List Value} {QY : Option Value → Wd → Prop} (hd : decode mi.2.1 pc = .ok (.invokespecial idx, 3)) (hY : YL y n) (hno9 : y.1.name ≠ "<init>") (hL : Cond.methodLink mi.1.cls idx y.1 ∈ AL ∧ Cond.sameMethod y.1.cls y.1.cls y.1.name y.1.desc ∈ AL ∧ Cond.superclass mi.1.cls y.1.cls ∈ AL ∧ Cond.instanceMethod y.1 ∈ AL) (hrec : SBo w a b c)
    (hM : MC d' y kb' sb' (.ref a :: As) w (RP QY)) (hn : As.length = n) (hst : st0 = As.reverse ++ .ref a :: st) (hcat : (st.map fun v => v.category).sum ≤ 8) (hdd : d' + 1 ≤ d) (kk : ∀ v w', QY v w' → J d mi (pc + 3) lc (v.toList ++ st) w' kb sb Q) : J d mi pc lc st0 w (kb + kb') (sb + sb') Q := by
  obtain ⟨f, y9, h1, -⟩ := hrec
  exact J_callSU hd hY hno9 hL h1 hM RP_no hn hst hcat hdd (fun v' w' q => kk _ _ (RPk q))
theorem K_tO {idx n d' kb' sb' : Nat} {x : MethodName} {y : MI} {b0 : ByteArray} {m0 : Nat} {r0 : Option FieldType} {a b c : Nat} {As st0 : List Value} {QY : Option Value → Wd → Prop} (hd : decode mi.2.1 pc = .ok (.invokevirtual idx, 3)) (hY : YL y n) (hL : Cond.methodLink mi.1.cls idx x ∈ AL ∧ Cond.sameMethod x.cls RJ5 x.name x.desc ∈ AL ∧ Cond.instanceMethod ⟨RJ5, x.name, x.desc⟩ ∈ AL ∧ Cond.selects RJ4 x y.1 ∈ AL ∧ Cond.instanceMethod y.1 ∈ AL) (h0 : Cond.code ⟨RJ5, x.name, x.desc⟩ b0 m0 r0 ∈ AL) (hdx : (parseMethodDescriptor x.desc).map (fun d => d.parameters.length) = some n) (hrec : SBo w a b c)
    (hM : MC d' y kb' sb' (.ref a :: As) w (RP QY)) (hn : As.length = n) (hst : st0 = As.reverse ++ .ref a :: st) (hcat : (st.map fun v => v.category).sum ≤ 8) (hdd : d' + 1 ≤ d) (kk : ∀ v w', QY v w' → J d mi (pc + 3) lc (v.toList ++ st) w' kb sb Q) : J d mi pc lc st0 w (kb + kb') (sb + sb') Q := by
  obtain ⟨f, y9, h1, -⟩ := hrec
  exact J_callO hd hY hL h0 hdx h1 hM RP_no hn hst hcat hdd (fun v' w' q => kk _ _ (RPk q))
theorem K_tI {idx n d' kb' sb' : Nat} {y : MI} {a : Nat} {As st0 : List Value} {QY : Option Value → Wd → Prop} (hd : decode mi.2.1 pc = .ok (.invokespecial idx, 3)) (hY : YL y n) (hr : y.2.2.2.1 = none) (hy : y.1.name = "<init>") (hL : Cond.methodLink mi.1.cls idx y.1 ∈ AL ∧ Cond.instanceMethod y.1 ∈ AL)
    (hM : MC d' y kb' sb' (.ref a :: As) w (RP QY)) (hn : As.length = n) (hst : st0 = As.reverse ++ .ref a :: st) (hcat : (st.map fun v => v.category).sum ≤ 8) (hdd : d' + 1 ≤ d) (kk : ∀ v w', QY v w' → J d mi (pc + 3) lc (v.toList ++ st) w' kb sb Q) : J d mi pc lc st0 w (kb + kb') (sb + sb') Q :=
  J_callI hd hY hr hy hL hM RP_no hn hst hcat hdd (fun v' w' q => kk _ _ (RPk q))
end
abbrev RPi (v : Value) (w : Wd) : Po := RP (fun r w' => r = some v ∧ w' = w)
abbrev RPu (w : Wd) : Po := RP (fun r w' => r = none ∧ w' = w)
theorem pnJ2 : plainName RJ2 = true := by decide +kernel
theorem pnJ4 : plainName RJ4 = true := by decide +kernel
theorem pnJ5 : plainName RJ5 = true := by decide +kernel
theorem pnJ7 : plainName RJ7 = true := by decide +kernel
theorem cl16 {f : Nat → Int32} (h : sb_Fit f) {w : Wd} {a n : Nat} (ha : w.1 a = .inl (3, n, .inl f)) (hn : n ≤ 1000) : BSrc w a n f := ⟨Or.inl ha, fun j _ => h j, hn⟩
theorem cap_le : ∀ m, m < 17 → nI m - nI 16 ≤ 0 := by decide +kernel
theorem shl_0 : ∀ m, m < 17 → nI m <<< ((0 : Int32) &&& 31) = nI m := by decide +kernel
theorem shr_16 : nI 16 >>> ((0 : Int32) &&& 31) = nI 16 := by decide
theorem shr_n {n : Nat} : nI n >>> ((0 : Int32) &&& 31) = nI n := by
  rw [show ((0 : Int32) &&& 31) = 0 by decide]
  exact Int32.shiftRight_zero
theorem neg_100 : ∀ j, j < 100 → ¬ (-(nI j) ≤ (-100 : Int32)) ∧ (-(nI j) ≤ (-10 : Int32) ↔ 10 ≤ j) ∧ ((-9 : Int32) ≤ -(nI j) ↔ j < 10) ∧ (-100 : Int32) < -(nI j) := by decide +kernel
theorem ch_255 (x : Int32) : ∃ c, c < 256 ∧ x &&& nI 255 = nI c ∧ ((nI c).toUInt32 % 65536).toInt32 = nI c := by
  have h9 : ∀ c, c < 256 → ((nI c).toUInt32 % 65536).toInt32 = nI c := by decide +kernel
  have h1 : (x &&& nI 255).toBitVec.toNat < 256 := by
    rw [Int32.toBitVec_and, BitVec.toNat_and]
    have h2 : (nI 255).toBitVec.toNat = 255 := by decide
    rw [h2]
    exact Nat.lt_succ_of_le Nat.and_le_right
  exact ⟨_, h1, (nI_self _).symm, h9 _ h1⟩
/-- letters of a number -/
def szN (j : Nat) : Nat := if j < 10 then 1 else 2
abbrev dig1 : Nat → Int32 := fun j => nI (48 + j % 10)
abbrev dig2 : Nat → Int32 := fun j => nI (48 + j / 10)
theorem SFZ_d1 : ("java/lang/Integer", "DigitOnes", "[B", (.ref 4 : Value)) ∈ SFZ := List.mem_of_getElem? (i := 4) rfl
theorem SFZ_d2 : ("java/lang/Integer", "DigitTens", "[B", (.ref 5 : Value)) ∈ SFZ := List.mem_of_getElem? (i := 5) rfl
theorem dig_fit : ∀ j, j < 100 → fits .byte (.int (nI (48 + j % 10))) = true ∧ fits .byte (.int (nI (48 + j / 10))) = true := by decide +kernel
theorem BS_d1 (w : Wd) : BSrc w 4 100 dig1 := ⟨Or.inr ⟨by omega, List.mem_append_left _ (List.mem_of_getElem? (i := 2) rfl)⟩, fun j hj => (dig_fit j hj).1, by omega⟩
theorem BS_d2 (w : Wd) : BSrc w 5 100 dig2 := ⟨Or.inr ⟨by omega, List.mem_append_left _ (List.mem_of_getElem? (i := 3) rfl)⟩, fun j hj => (dig_fit j hj).2, by omega⟩
theorem fit_upd {g : Nat → Int32} (h : sb_Fit g) (i : Nat) (x : Int32) : sb_Fit (upd g i (vp_nar .byte x)) := fun j => by
  by_cases e : j = i
  · rw [e, show upd g i (vp_nar .byte x) i = vp_nar .byte x by simp [upd]]
    exact fits_nar x
  · rw [show upd g i (vp_nar .byte x) j = g j by simp [upd, e]]
    exact h j
set_option maxRecDepth 100000 in
theorem t_J5_init {w : Wd} {b : Nat} (hb : w.1 b = .inr (9, [.null, .int 0, .int 0, .int 0])) : MC 2 mJ5_init_d00df 1 16 [.ref b, .int (nI 16)] w (RP (fun r w' => r = none ∧ ∃ a, SBo w' b a 0 ∧ w.1 a = dead ∧ (∀ e, w.1 e ≠ dead → e < a) ∧ KB w w' b a)) := by
  refine MC_of pnJ5 rfl (fun v hv => by simp only [List.mem_cons, List.not_mem_nil, or_false] at hv; rcases hv with rfl | rfl <;> rfl) (Nat.le_of_ble_eq_true rfl) (Or.inr (fun E w h => RP_no E w h)) ?_
  show J 2 mJ5_init_d00df 0 [some (.ref b), some (.int (nI 16))] [] w 1 16 _
  refine J_aload_n dJ5_init_d00df_0 rfl rfl ?_
  refine J_objInit dJ5_init_d00df_1 kJ5_3 (Nat.le_of_ble_eq_true rfl) (by decide) ?_
  refine J_getstatic dJ5_init_d00df_4 SFZ_cs rfl gJ5_18 ?_
  refine J_if_eq (tgt := 25) dJ5_init_d00df_7 (by decide) (fun h7 => absurd h7 (by decide)) (fun h7 => ?_)
  refine J_aload_n dJ5_init_d00df_10 rfl rfl ?_
  refine J_iload_n dJ5_init_d00df_11 rfl rfl ?_
  refine F_newa_byte (kb := 0) (sb := 0) (N := 16) dJ5_init_d00df_12 ac_byte (by decide) (by decide) (by decide) (fun a w1 q1 => ?_)
  have hb1 := (q1.2.2.1 b (by have := q1.2.2.2.2 b (by rw [hb]; exact nd_r9); omega)).trans hb
  have hba : a ≠ b := by have := q1.2.2.2.2 b (by rw [hb]; exact nd_r9); omega
  refine K_putR dJ5_init_d00df_14 fJ5_15 (Or.inl rfl) hb1 (by decide) (Or.inr ⟨_, rfl⟩) (fun w2 u2 => ?_)
  refine J_aload_n dJ5_init_d00df_17 rfl rfl ?_
  refine J_iconst (v := nI 0) dJ5_init_d00df_18 (by decide) ?_
  refine K_putB dJ5_init_d00df_19 fJ5_22 (Or.inl rfl) u2.1 (Nat.le_of_ble_eq_true rfl) (fun w3 u3 => ?_)
  refine J_goto (tgt := 38) dJ5_init_d00df_22 (by decide) ?_
  exact J_return dJ5_init_d00df_38 rfl (RP_i ⟨rfl, a, ⟨fun _ => 0, .int 0, u3.1, (u3.2.1 a hba).trans ((u2.2.1 a hba).trans q1.1), fun _ => rfl, by omega, hba⟩, q1.2.1, q1.2.2.2.2, ((KB.new q1 nd_l b a).tr (KB.up u2 nd_r9 (Or.inl rfl))).tr (KB.up u3 nd_r9 (Or.inl rfl))⟩)
set_option maxRecDepth 100000 in
theorem t_J4_init {w : Wd} {b : Nat} (hb : w.1 b = .inr (9, [.null, .int 0, .int 0, .int 0])) : MC 3 mJ4_init_da8c8 1 16 [.ref b] w (RP (fun r w' => r = none ∧ ∃ a, SBo w' b a 0 ∧ w.1 a = dead ∧ (∀ e, w.1 e ≠ dead → e < a) ∧ KB w w' b a)) := by
  refine MC_of pnJ4 rfl (fun v hv => by simp only [List.mem_cons, List.not_mem_nil, or_false] at hv; rcases hv with rfl <;> rfl) (Nat.le_of_ble_eq_true rfl) (Or.inr (fun E w h => RP_no E w h)) ?_
  show J 3 mJ4_init_da8c8 0 [some (.ref b)] [] w 1 16 _
  refine J_aload_n dJ4_init_da8c8_0 rfl rfl ?_
  refine J_bipush (v := nI 16) dJ4_init_da8c8_1 (by decide) ?_
  refine K_tI (kb := 0) (sb := 0) dJ4_init_da8c8_3 YJ5_init_d00df rfl rfl kJ4_1 (t_J5_init hb) rfl rfl (Nat.le_of_ble_eq_true rfl) (by decide) (fun r1 w1 q1 => ?_)
  obtain ⟨rfl, q1⟩ := q1
  exact J_return dJ4_init_da8c8_6 rfl (RP_i ⟨rfl, q1⟩)
set_option maxRecDepth 100000 in
theorem t_ensure {w : Wd} {b a n m : Nat} (h : SBo w b a n) (hm : m ≤ 16) : MC 2 mJ5_ensureCapacityInternal_d00df 0 0 [.ref b, .int (nI m)] w (RPu w) := by
  refine MC_of pnJ5 rfl (fun v hv => by simp only [List.mem_cons, List.not_mem_nil, or_false] at hv; rcases hv with rfl | rfl <;> rfl) (Nat.le_of_ble_eq_true rfl) (Or.inr (fun E w h => RP_no E w h)) ?_
  have h0 := h
  obtain ⟨f, y, hb, ha, hf, hn, hab⟩ := h0
  show J 2 mJ5_ensureCapacityInternal_d00df 0 [some (.ref b), some (.int (nI m)), none] [] w 0 0 _
  refine J_aload_n dJ5_ensureCapacityInternal_d00df_0 rfl rfl ?_
  refine J_getfield dJ5_ensureCapacityInternal_d00df_1 fJ5_15 hb rfl ?_
  refine J_blen dJ5_ensureCapacityInternal_d00df_4 (cl16 hf ha (by omega)) ?_
  refine J_aload_n dJ5_ensureCapacityInternal_d00df_5 rfl rfl ?_
  refine J_getfield dJ5_ensureCapacityInternal_d00df_6 fJ5_22 hb rfl ?_
  refine K_ishr (v := nI 16) dJ5_ensureCapacityInternal_d00df_9 shr_16 ?_
  refine J_istore_n dJ5_ensureCapacityInternal_d00df_10 rfl (by decide) rfl ?_
  refine J_iload_n dJ5_ensureCapacityInternal_d00df_11 rfl rfl ?_
  refine J_iload_n dJ5_ensureCapacityInternal_d00df_12 rfl rfl ?_
  refine K_isub (v := nI m - nI 16) dJ5_ensureCapacityInternal_d00df_13 rfl ?_
  refine J_if_le (tgt := 38) dJ5_ensureCapacityInternal_d00df_14 (by decide) (fun h14 => ?_) (fun h14 => absurd (cap_le m (by omega)) h14)
  exact J_return dJ5_ensureCapacityInternal_d00df_38 rfl (RP_i ⟨rfl, rfl⟩)
set_option maxRecDepth 100000 in
theorem t_coder {w : Wd} {s v n : Nat} {f : Nat → Int32} (h : VStr w s v n f) : MC 2 mJ0_coder_7d493 0 0 [.ref s] w (RPi (.int 0) w) := by
  refine MC_of pnJ0 rfl (fun v hv => by simp only [List.mem_cons, List.not_mem_nil, or_false] at hv; rcases hv with rfl <;> rfl) (Nat.le_of_ble_eq_true rfl) (Or.inr (fun E w h => RP_no E w h)) ?_
  show J 2 mJ0_coder_7d493 0 [some (.ref s)] [] w 0 0 _
  refine J_getstatic dJ0_coder_7d493_0 SFZ_cs rfl gJ0_38 ?_
  refine J_if_eq (tgt := 13) dJ0_coder_7d493_3 (by decide) (fun h3 => absurd h3 (by decide)) (fun h3 => ?_)
  refine J_aload_n dJ0_coder_7d493_6 rfl rfl ?_
  refine K_strc dJ0_coder_7d493_7 gJ0_15 fJ0_15 h ?_
  refine J_goto (tgt := 14) dJ0_coder_7d493_10 (by decide) ?_
  exact J_ireturn dJ0_coder_7d493_14 rfl rfl (RP_i ⟨rfl, rfl⟩)
set_option maxRecDepth 100000 in
theorem t_isLatin1 {w : Wd} {s v n : Nat} {f : Nat → Int32} (h : VStr w s v n f) : MC 2 mJ0_isLatin1_aae02 0 0 [.ref s] w (RPi (.int (nI 1)) w) := by
  refine MC_of pnJ0 rfl (fun v hv => by simp only [List.mem_cons, List.not_mem_nil, or_false] at hv; rcases hv with rfl <;> rfl) (Nat.le_of_ble_eq_true rfl) (Or.inr (fun E w h => RP_no E w h)) ?_
  show J 2 mJ0_isLatin1_aae02 0 [some (.ref s)] [] w 0 0 _
  refine J_getstatic dJ0_isLatin1_aae02_0 SFZ_cs rfl gJ0_38 ?_
  refine J_if_eq (tgt := 17) dJ0_isLatin1_aae02_3 (by decide) (fun h3 => absurd h3 (by decide)) (fun h3 => ?_)
  refine J_aload_n dJ0_isLatin1_aae02_6 rfl rfl ?_
  refine K_strc dJ0_isLatin1_aae02_7 gJ0_15 fJ0_15 h ?_
  refine J_if_ne (tgt := 17) dJ0_isLatin1_aae02_10 (by decide) (fun h10 => absurd rfl h10) (fun h10 => ?_)
  refine J_iconst (v := nI 1) dJ0_isLatin1_aae02_13 (by decide) ?_
  refine J_goto (tgt := 18) dJ0_isLatin1_aae02_14 (by decide) ?_
  exact J_ireturn dJ0_isLatin1_aae02_18 rfl rfl (RP_i ⟨rfl, rfl⟩)
set_option maxRecDepth 100000 in
theorem t_length {w : Wd} {s v n : Nat} {f : Nat → Int32} (h : VStr w s v n f) : MC 3 mJ0_length_8abf5 0 0 [.ref s] w (RPi (.int (nI n)) w) := by
  refine MC_of pnJ0 rfl (fun v hv => by simp only [List.mem_cons, List.not_mem_nil, or_false] at hv; rcases hv with rfl <;> rfl) (Nat.le_of_ble_eq_true rfl) (Or.inr (fun E w h => RP_no E w h)) ?_
  show J 3 mJ0_length_8abf5 0 [some (.ref s)] [] w 0 0 _
  refine J_aload_n dJ0_length_8abf5_0 rfl rfl ?_
  refine K_strv dJ0_length_8abf5_1 gJ0_9 fJ0_9 h ?_
  refine J_blen dJ0_length_8abf5_4 h.1 ?_
  refine J_aload_n dJ0_length_8abf5_5 rfl rfl ?_
  refine K_tV (kb := 0) (sb := 0) dJ0_length_8abf5_6 YJ0_coder_7d493 kJ0_335 h.rc (t_coder h) rfl rfl (Nat.le_of_ble_eq_true rfl) (by decide) (fun r1 w1 q1 => ?_)
  obtain ⟨rfl, rfl⟩ := q1
  refine K_ishr (v := nI n) dJ0_length_8abf5_9 shr_n ?_
  exact J_ireturn dJ0_length_8abf5_10 rfl rfl (RP_i ⟨rfl, rfl⟩)
set_option maxRecDepth 100000 in
theorem t_J1_charAt {w : Wd} {v n k : Nat} {f : Nat → Int32} (hB : BSrc w v n f) (hk : k < n) : MC 4 mJ1_charAt_3b067 0 0 [.ref v, .int (nI k)] w (RP (fun r w' => w' = w ∧ ∃ c, c < 256 ∧ r = some (.int (nI c)))) := by
  refine MC_of pnJ1 rfl (fun v hv => by simp only [List.mem_cons, List.not_mem_nil, or_false] at hv; rcases hv with rfl | rfl <;> rfl) (Nat.le_of_ble_eq_true rfl) (Or.inr (fun E w h => RP_no E w h)) ?_
  obtain ⟨c, c1, c2, c3⟩ := ch_255 (f k)
  show J 4 mJ1_charAt_3b067 0 [some (.ref v), some (.int (nI k))] [] w 0 0 _
  refine J_iload_n dJ1_charAt_3b067_0 rfl rfl ?_
  refine J_aload_n dJ1_charAt_3b067_1 rfl rfl ?_
  refine J_blen dJ1_charAt_3b067_2 hB ?_
  refine K_callSp dJ1_charAt_3b067_3 YJ0_checkIndex_df160 kJ1_9 (RU_RP (c_J0_checkIndex hk (by have := hB.2.2; omega))) rfl rfl (Nat.le_of_ble_eq_true rfl) (by decide) (fun r1 w1 q1 => ?_)
  obtain ⟨rfl, rfl⟩ := q1
  refine J_aload_n dJ1_charAt_3b067_6 rfl rfl ?_
  refine J_iload_n dJ1_charAt_3b067_7 rfl rfl ?_
  refine J_bget dJ1_charAt_3b067_8 hB hk ?_
  refine J_sipush (v := nI 255) dJ1_charAt_3b067_9 (by decide) ?_
  refine K_iand dJ1_charAt_3b067_12 c2 ?_
  refine J_i2c dJ1_charAt_3b067_13 c3 ?_
  exact J_ireturn dJ1_charAt_3b067_14 rfl (congrArg Value.int c3) (RP_i ⟨rfl, c, c1, rfl⟩)
theorem nar_256 : ∀ c, c < 256 → ((nI c).toUInt32 % 65536).toInt32 = nI c := by decide +kernel
set_option maxRecDepth 100000 in
theorem t_charAt {w : Wd} {s v n k : Nat} {f : Nat → Int32} (h : VStr w s v n f) (hk : k < n) : MC 5 mJ0_charAt_5068e 0 0 [.ref s, .int (nI k)] w (RP (fun r w' => w' = w ∧ ∃ c, c < 256 ∧ r = some (.int (nI c)))) := by
  refine MC_of pnJ0 rfl (fun v hv => by simp only [List.mem_cons, List.not_mem_nil, or_false] at hv; rcases hv with rfl | rfl <;> rfl) (Nat.le_of_ble_eq_true rfl) (Or.inr (fun E w h => RP_no E w h)) ?_
  show J 5 mJ0_charAt_5068e 0 [some (.ref s), some (.int (nI k))] [] w 0 0 _
  refine J_aload_n dJ0_charAt_5068e_0 rfl rfl ?_
  refine K_tV (kb := 0) (sb := 0) dJ0_charAt_5068e_1 YJ0_isLatin1_aae02 kJ0_492 h.rc (t_isLatin1 h) rfl rfl (Nat.le_of_ble_eq_true rfl) (by decide) (fun r1 w1 q1 => ?_)
  obtain ⟨rfl, rfl⟩ := q1
  refine J_if_eq (tgt := 16) dJ0_charAt_5068e_4 (by decide) (fun h4 => absurd h4 (by decide)) (fun h4 => ?_)
  refine J_aload_n dJ0_charAt_5068e_7 rfl rfl ?_
  refine K_strv dJ0_charAt_5068e_8 gJ0_9 fJ0_9 h ?_
  refine J_iload_n dJ0_charAt_5068e_11 rfl rfl ?_
  refine K_sc (kb := 0) (sb := 0) dJ0_charAt_5068e_12 YJ1_charAt_3b067 kJ0_495 (t_J1_charAt h.1 hk) rfl rfl (Nat.le_of_ble_eq_true rfl) (by decide) (fun r2 w2 q2 => ?_)
  obtain ⟨rfl, c, c1, rfl⟩ := q2
  exact J_ireturn dJ0_charAt_5068e_15 rfl (congrArg Value.int (nar_256 c c1)) (RP_i ⟨rfl, c, c1, rfl⟩)
set_option maxRecDepth 100000 in
theorem t_getBytes {w : Wd} {s v n : Nat} {f : Nat → Int32} (h : VStr w s v n f) {a m : Nat} {g : Nat → Int32} (ha : w.1 a = .inl (3, 16, .inl g)) (hg : sb_Fit g) (hm : m + n ≤ 16) : MC 3 mJ0_getBytes_840e7 0 0 [.ref s, .ref a, .int (nI m), .int 0] w (RP (fun r w' => r = none ∧ UpB w w' a)) := by
  refine MC_of pnJ0 rfl (fun v hv => by simp only [List.mem_cons, List.not_mem_nil, or_false] at hv; rcases hv with rfl | rfl | rfl | rfl <;> rfl) (Nat.le_of_ble_eq_true rfl) (Or.inr (fun E w h => RP_no E w h)) ?_
  show J 3 mJ0_getBytes_840e7 0 [some (.ref s), some (.ref a), some (.int (nI m)), some (.int 0)] [] w 0 0 _
  refine J_aload_n dJ0_getBytes_840e7_0 rfl rfl ?_
  refine K_tV (kb := 0) (sb := 0) dJ0_getBytes_840e7_1 YJ0_coder_7d493 kJ0_335 h.rc (t_coder h) rfl rfl (Nat.le_of_ble_eq_true rfl) (by decide) (fun r1 w1 q1 => ?_)
  obtain ⟨rfl, rfl⟩ := q1
  refine J_iload_n dJ0_getBytes_840e7_4 rfl rfl ?_
  refine J_icmp_ne (tgt := 28) dJ0_getBytes_840e7_5 (by decide) (fun h5 => absurd rfl h5) (fun h5 => ?_)
  refine J_aload_n dJ0_getBytes_840e7_8 rfl rfl ?_
  refine K_strv dJ0_getBytes_840e7_9 gJ0_9 fJ0_9 h ?_
  refine J_iconst (v := nI 0) dJ0_getBytes_840e7_12 (by decide) ?_
  refine J_aload_n dJ0_getBytes_840e7_13 rfl rfl ?_
  refine J_iload_n dJ0_getBytes_840e7_14 rfl rfl ?_
  refine J_iload_n dJ0_getBytes_840e7_15 rfl rfl ?_
  refine K_ishl (v := nI m) dJ0_getBytes_840e7_16 (shl_0 m (by omega)) ?_
  refine J_aload_n dJ0_getBytes_840e7_17 rfl rfl ?_
  refine K_strv dJ0_getBytes_840e7_18 gJ0_9 fJ0_9 h ?_
  refine J_blen dJ0_getBytes_840e7_21 h.1 ?_
  refine K_bcopy (sp := 0) (dp := m) (n := n) dJ0_getBytes_840e7_22 kJ0_212 h.1 ha hg (by omega) (by omega) (by omega) (Nat.le_of_ble_eq_true rfl) (by decide) (fun w2 g2 u2 f2 => ?_)
  refine J_goto (tgt := 43) dJ0_getBytes_840e7_25 (by decide) ?_
  exact J_return dJ0_getBytes_840e7_43 rfl (RP_i ⟨rfl, g2, u2, f2⟩)
set_option maxRecDepth 100000 in
theorem t_inflateIf {w : Wd} {b a n : Nat} (h : SBo w b a n) {s v k : Nat} {f9 : Nat → Int32} (hs : VStr w s v k f9) : MC 3 mJ5_inflateIfNeededFor_a7421 0 0 [.ref b, .ref s] w (RPu w) := by
  refine MC_of pnJ5 rfl (fun v hv => by simp only [List.mem_cons, List.not_mem_nil, or_false] at hv; rcases hv with rfl | rfl <;> rfl) (Nat.le_of_ble_eq_true rfl) (Or.inr (fun E w h => RP_no E w h)) ?_
  have h0 := h
  obtain ⟨f, y, hb, ha, hf, hn, hab⟩ := h0
  show J 3 mJ5_inflateIfNeededFor_a7421 0 [some (.ref b), some (.ref s)] [] w 0 0 _
  refine J_getstatic dJ5_inflateIfNeededFor_a7421_0 SFZ_cs rfl gJ5_18 ?_
  refine J_if_eq (tgt := 21) dJ5_inflateIfNeededFor_a7421_3 (by decide) (fun h3 => absurd h3 (by decide)) (fun h3 => ?_)
  refine J_aload_n dJ5_inflateIfNeededFor_a7421_6 rfl rfl ?_
  refine J_getfield dJ5_inflateIfNeededFor_a7421_7 fJ5_22 hb rfl ?_
  refine J_aload_n dJ5_inflateIfNeededFor_a7421_10 rfl rfl ?_
  refine K_tV (kb := 0) (sb := 0) dJ5_inflateIfNeededFor_a7421_11 YJ0_coder_7d493 kJ5_40 hs.rc (t_coder hs) rfl rfl (Nat.le_of_ble_eq_true rfl) (by decide) (fun r1 w1 q1 => ?_)
  obtain ⟨rfl, rfl⟩ := q1
  refine J_icmp_eq (tgt := 21) dJ5_inflateIfNeededFor_a7421_14 (by decide) (fun h14 => ?_) (fun h14 => absurd rfl h14)
  exact J_return dJ5_inflateIfNeededFor_a7421_21 rfl (RP_i ⟨rfl, rfl⟩)
set_option maxRecDepth 100000 in
theorem t_putStringAt {w : Wd} {b a n : Nat} (h : SBo w b a n) {s v k : Nat} {f9 : Nat → Int32} (hs : VStr w s v k f9) {m : Nat} (hm : m + k ≤ 16) : MC 4 mJ5_putStringAt_47b60 0 0 [.ref b, .int (nI m), .ref s] w (RP (fun r w' => r = none ∧ UpB w w' a)) := by
  refine MC_of pnJ5 rfl (fun v hv => by simp only [List.mem_cons, List.not_mem_nil, or_false] at hv; rcases hv with rfl | rfl | rfl <;> rfl) (Nat.le_of_ble_eq_true rfl) (Or.inr (fun E w h => RP_no E w h)) ?_
  have h0 := h
  obtain ⟨f, y, hb, ha, hf, hn, hab⟩ := h0
  show J 4 mJ5_putStringAt_47b60 0 [some (.ref b), some (.int (nI m)), some (.ref s)] [] w 0 0 _
  refine J_aload_n dJ5_putStringAt_47b60_0 rfl rfl ?_
  refine J_aload_n dJ5_putStringAt_47b60_1 rfl rfl ?_
  refine K_tU (kb := 0) (sb := 0) dJ5_putStringAt_47b60_2 YJ5_inflateIfNeededFor_a7421 rfl uJ5_397 h.rc (t_inflateIf h hs) rfl rfl (Nat.le_of_ble_eq_true rfl) (by decide) (fun r1 w1 q1 => ?_)
  obtain ⟨rfl, rfl⟩ := q1
  refine J_aload_n dJ5_putStringAt_47b60_5 rfl rfl ?_
  refine J_aload_n dJ5_putStringAt_47b60_6 rfl rfl ?_
  refine J_getfield dJ5_putStringAt_47b60_7 fJ5_15 hb rfl ?_
  refine J_iload_n dJ5_putStringAt_47b60_10 rfl rfl ?_
  refine J_aload_n dJ5_putStringAt_47b60_11 rfl rfl ?_
  refine J_getfield dJ5_putStringAt_47b60_12 fJ5_22 hb rfl ?_
  refine K_tV (kb := 0) (sb := 0) dJ5_putStringAt_47b60_15 YJ0_getBytes_840e7 kJ5_399 hs.rc (t_getBytes hs ha hf hm) rfl rfl (Nat.le_of_ble_eq_true rfl) (by decide) (fun r2 w2 q2 => ?_)
  obtain ⟨rfl, q2⟩ := q2
  exact J_return dJ5_putStringAt_47b60_18 rfl (RP_i ⟨rfl, q2⟩)
set_option maxRecDepth 100000 in
theorem t_J5_append {w : Wd} {b a n : Nat} (h : SBo w b a n) {s v k : Nat} {f9 : Nat → Int32} (hs : VStr w s v k f9) (hk : n + k ≤ 16) : MC 5 mJ5_append_cf1ce 0 0 [.ref b, .ref s] w (RP (fun r w' => r = some (.ref b) ∧ SBo w' b a (n + k) ∧ KB w w' b a)) := by
  refine MC_of pnJ5 rfl (fun v hv => by simp only [List.mem_cons, List.not_mem_nil, or_false] at hv; rcases hv with rfl | rfl <;> rfl) (Nat.le_of_ble_eq_true rfl) (Or.inr (fun E w h => RP_no E w h)) ?_
  have h0 := h
  obtain ⟨f, y, hb, ha, hf, hn, hab⟩ := h0
  show J 5 mJ5_append_cf1ce 0 [some (.ref b), some (.ref s), none] [] w 0 0 _
  refine J_aload_n dJ5_append_cf1ce_0 rfl rfl ?_
  refine J_ifnonnull (tgt := 9) dJ5_append_cf1ce_1 (by decide) ?_
  refine J_aload_n dJ5_append_cf1ce_9 rfl rfl ?_
  refine K_tV (kb := 0) (sb := 0) dJ5_append_cf1ce_10 YJ0_length_8abf5 kJ5_32 hs.rc (t_length hs) rfl rfl (Nat.le_of_ble_eq_true rfl) (by decide) (fun r1 w1 q1 => ?_)
  obtain ⟨rfl, rfl⟩ := q1
  refine J_istore_n dJ5_append_cf1ce_13 rfl (by decide) rfl ?_
  refine J_aload_n dJ5_append_cf1ce_14 rfl rfl ?_
  refine J_aload_n dJ5_append_cf1ce_15 rfl rfl ?_
  refine J_getfield dJ5_append_cf1ce_16 fJ5_79 hb rfl ?_
  refine J_iload_n dJ5_append_cf1ce_19 rfl rfl ?_
  refine K_iadd (v := nI (n + k)) dJ5_append_cf1ce_20 (nI_add _ _) ?_
  refine K_tU (kb := 0) (sb := 0) dJ5_append_cf1ce_21 YJ5_ensureCapacityInternal_d00df rfl uJ5_100 h.rc (t_ensure h hk) rfl rfl (Nat.le_of_ble_eq_true rfl) (by decide) (fun r2 w2 q2 => ?_)
  obtain ⟨rfl, rfl⟩ := q2
  refine J_aload_n dJ5_append_cf1ce_24 rfl rfl ?_
  refine J_aload_n dJ5_append_cf1ce_25 rfl rfl ?_
  refine J_getfield dJ5_append_cf1ce_26 fJ5_79 hb rfl ?_
  refine J_aload_n dJ5_append_cf1ce_29 rfl rfl ?_
  refine K_tU (kb := 0) (sb := 0) dJ5_append_cf1ce_30 YJ5_putStringAt_47b60 rfl uJ5_208 h.rc (t_putStringAt h hs hk) rfl rfl (Nat.le_of_ble_eq_true rfl) (by decide) (fun r3 w3 q3 => ?_)
  obtain ⟨rfl, q3⟩ := q3
  have h2 := h.upB q3
  obtain ⟨f2, y2, hb2, ha2, hf2, -, -⟩ := h2
  refine J_aload_n dJ5_append_cf1ce_33 rfl rfl ?_
  refine J_dup dJ5_append_cf1ce_34 rfl ?_
  refine J_getfield dJ5_append_cf1ce_35 fJ5_79 hb2 rfl ?_
  refine J_iload_n dJ5_append_cf1ce_38 rfl rfl ?_
  refine K_iadd (v := nI (n + k)) dJ5_append_cf1ce_39 (nI_add _ _) ?_
  refine K_putI dJ5_append_cf1ce_40 fJ5_79 (Or.inl rfl) hb2 (Nat.le_of_ble_eq_true rfl) (fun w4 u4 => ?_)
  refine J_aload_n dJ5_append_cf1ce_43 rfl rfl ?_
  exact J_areturn dJ5_append_cf1ce_44 rfl (Or.inl ⟨_, rfl⟩) (RP_i ⟨rfl, ⟨f2, y2, u4.1, (u4.2.1 a hab).trans ha2, hf2, hk, hab⟩, q3.kb.tr (KB.up u4 nd_r9 (Or.inl rfl))⟩)
set_option maxRecDepth 100000 in
theorem t_append {w : Wd} {b a n : Nat} (h : SBo w b a n) {s v k : Nat} {f9 : Nat → Int32} (hs : VStr w s v k f9) (hk : n + k ≤ 16) : MC 6 mJ4_append_15ec4 0 0 [.ref b, .ref s] w (RP (fun r w' => r = some (.ref b) ∧ SBo w' b a (n + k) ∧ KB w w' b a)) := by
  refine MC_of pnJ4 rfl (fun v hv => by simp only [List.mem_cons, List.not_mem_nil, or_false] at hv; rcases hv with rfl | rfl <;> rfl) (Nat.le_of_ble_eq_true rfl) (Or.inr (fun E w h => RP_no E w h)) ?_
  show J 6 mJ4_append_15ec4 0 [some (.ref b), some (.ref s)] [] w 0 0 _
  refine J_aload_n dJ4_append_15ec4_0 rfl rfl ?_
  refine J_aload_n dJ4_append_15ec4_1 rfl rfl ?_
  refine K_tSU (kb := 0) (sb := 0) dJ4_append_15ec4_2 YJ5_append_cf1ce (by decide) sJ4_29 h (t_J5_append h hs hk) rfl rfl (Nat.le_of_ble_eq_true rfl) (by decide) (fun r1 w1 q1 => ?_)
  obtain ⟨rfl, q1⟩ := q1
  refine J_pop dJ4_append_15ec4_5 rfl ?_
  refine J_aload_n dJ4_append_15ec4_6 rfl rfl ?_
  exact J_areturn dJ4_append_15ec4_7 rfl (Or.inl ⟨_, rfl⟩) (RP_i ⟨rfl, q1⟩)
set_option maxRecDepth 100000 in
theorem t_stringSize {w : Wd} {j : Nat} (hj : j < 100) : MC 1 mJ6_stringSize_0f7a4 0 0 [.int (nI j)] w (RPi (.int (nI (szN j))) w) := by
  refine MC_of pnJ6 rfl (fun v hv => by simp only [List.mem_cons, List.not_mem_nil, or_false] at hv; rcases hv with rfl <;> rfl) (Nat.le_of_ble_eq_true rfl) (Or.inr (fun E w h => RP_no E w h)) ?_
  obtain ⟨g1, g2, g3, g4⟩ := neg_100 j hj
  show J 1 mJ6_stringSize_0f7a4 0 [some (.int (nI j)), none, none, none] [] w 0 0 _
  refine J_iconst (v := nI 1) dJ6_stringSize_0f7a4_0 (by decide) ?_
  refine J_istore_n dJ6_stringSize_0f7a4_1 rfl (by decide) rfl ?_
  refine J_iload_n dJ6_stringSize_0f7a4_2 rfl rfl ?_
  refine J_if_lt (tgt := 11) dJ6_stringSize_0f7a4_3 (by decide) (fun h => absurd h (nI_pos (by omega))) (fun h => ?_)
  refine J_iconst (v := nI 0) dJ6_stringSize_0f7a4_6 (by decide) ?_
  refine J_istore_n dJ6_stringSize_0f7a4_7 rfl (by decide) rfl ?_
  refine J_iload_n dJ6_stringSize_0f7a4_8 rfl rfl ?_
  refine J_ineg (v := -(nI j)) dJ6_stringSize_0f7a4_9 rfl ?_
  refine J_istore_n dJ6_stringSize_0f7a4_10 rfl (by decide) rfl ?_
  refine J_bipush (v := (-10)) dJ6_stringSize_0f7a4_11 (by decide) ?_
  refine J_istore_n dJ6_stringSize_0f7a4_13 rfl (by decide) rfl ?_
  refine J_iconst (v := nI 1) dJ6_stringSize_0f7a4_14 (by decide) ?_
  refine J_istore_n dJ6_stringSize_0f7a4_15 rfl (by decide) rfl ?_
  refine J_iload_n dJ6_stringSize_0f7a4_16 rfl rfl ?_
  refine J_bipush (v := nI 10) dJ6_stringSize_0f7a4_17 (by decide) ?_
  refine J_icmp_ge (tgt := 42) dJ6_stringSize_0f7a4_19 (by decide) (fun h => absurd h (by decide)) (fun h => ?_)
  refine J_iload_n dJ6_stringSize_0f7a4_22 rfl rfl ?_
  refine J_iload_n dJ6_stringSize_0f7a4_23 rfl rfl ?_
  by_cases hj9 : 10 ≤ j
  · skip
    refine J_icmp_le (tgt := 31) dJ6_stringSize_0f7a4_24 (by decide) (fun h => ?_) (fun h => absurd (g2.mpr hj9) h)
    refine J_bipush (v := nI 10) dJ6_stringSize_0f7a4_31 (by decide) ?_
    refine J_iload_n dJ6_stringSize_0f7a4_33 rfl rfl ?_
    refine K_imul (v := -100) dJ6_stringSize_0f7a4_34 (by decide) ?_
    refine J_istore_n dJ6_stringSize_0f7a4_35 rfl (by decide) rfl ?_
    refine J_iinc (v := nI 2) dJ6_stringSize_0f7a4_36 rfl (by decide) (by decide) rfl ?_
    refine J_goto (tgt := 16) dJ6_stringSize_0f7a4_39 (by decide) ?_
    refine J_iload_n dJ6_stringSize_0f7a4_16 rfl rfl ?_
    refine J_bipush (v := nI 10) dJ6_stringSize_0f7a4_17 (by decide) ?_
    refine J_icmp_ge (tgt := 42) dJ6_stringSize_0f7a4_19 (by decide) (fun h => absurd h (by decide)) (fun h => ?_)
    refine J_iload_n dJ6_stringSize_0f7a4_22 rfl rfl ?_
    refine J_iload_n dJ6_stringSize_0f7a4_23 rfl rfl ?_
    refine J_icmp_le (tgt := 31) dJ6_stringSize_0f7a4_24 (by decide) (fun h => absurd h g1) (fun h => ?_)
    refine J_iload_n dJ6_stringSize_0f7a4_27 rfl rfl ?_
    refine J_iload_n dJ6_stringSize_0f7a4_28 rfl rfl ?_
    refine K_iadd (v := nI 2) dJ6_stringSize_0f7a4_29 (by decide) ?_
    exact J_ireturn dJ6_stringSize_0f7a4_30 rfl rfl (RP_i ⟨by unfold szN; rw [if_neg (by omega)], rfl⟩)
  · skip
    refine J_icmp_le (tgt := 31) dJ6_stringSize_0f7a4_24 (by decide) (fun h => absurd (g2.mp h) hj9) (fun h => ?_)
    refine J_iload_n dJ6_stringSize_0f7a4_27 rfl rfl ?_
    refine J_iload_n dJ6_stringSize_0f7a4_28 rfl rfl ?_
    refine K_iadd (v := nI 1) dJ6_stringSize_0f7a4_29 (by decide) ?_
    exact J_ireturn dJ6_stringSize_0f7a4_30 rfl rfl (RP_i ⟨by unfold szN; rw [if_pos (by omega)], rfl⟩)
set_option maxRecDepth 100000 in
theorem t_getChars {w : Wd} {j e a : Nat} {g : Nat → Int32} (hj : j < 100) (ha : w.1 a = .inl (3, 16, .inl g)) (hg : sb_Fit g) (he : szN j ≤ e) (he2 : e ≤ 16) : MC 1 mJ6_getChars_ba4f3 0 0 [.int (nI j), .int (nI e), .ref a] w (RP (fun r w' => (∃ z : Int32, r = some (.int z)) ∧ UpB w w' a)) := by
  refine MC_of pnJ6 rfl (fun v hv => by simp only [List.mem_cons, List.not_mem_nil, or_false] at hv; rcases hv with rfl | rfl | rfl <;> rfl) (Nat.le_of_ble_eq_true rfl) (Or.inr (fun E w h => RP_no E w h)) ?_
  obtain ⟨g1, g2, g3, g4⟩ := neg_100 j hj
  have he1 : 1 ≤ e := by unfold szN at he; split at he <;> omega
  show J 1 mJ6_getChars_ba4f3 0 [some (.int (nI j)), some (.int (nI e)), some (.ref a), none, none, none, none] [] w 0 0 _
  refine J_iload_n dJ6_getChars_ba4f3_0 rfl rfl ?_
  refine J_istore dJ6_getChars_ba4f3_1 (by decide) rfl ?_
  refine J_iload_n dJ6_getChars_ba4f3_3 rfl rfl ?_
  refine J_if_ge (tgt := 11) dJ6_getChars_ba4f3_4 (by decide) (fun h => ?_) (fun h => absurd (Int32.not_lt.mp (nI_pos (by omega))) h)
  refine J_iconst (v := nI 0) dJ6_getChars_ba4f3_11 (by decide) ?_
  refine J_istore dJ6_getChars_ba4f3_12 (by decide) rfl ?_
  refine J_iload dJ6_getChars_ba4f3_14 rfl ?_
  refine J_if_ne (tgt := 22) dJ6_getChars_ba4f3_16 (by decide) (fun h => absurd rfl h) (fun h => ?_)
  refine J_iload_n dJ6_getChars_ba4f3_19 rfl rfl ?_
  refine J_ineg (v := -(nI j)) dJ6_getChars_ba4f3_20 rfl ?_
  refine J_istore_n dJ6_getChars_ba4f3_21 rfl (by decide) rfl ?_
  refine J_iload_n dJ6_getChars_ba4f3_22 rfl rfl ?_
  refine J_bipush (v := (-100)) dJ6_getChars_ba4f3_23 (by decide) ?_
  refine J_icmp_gt (tgt := 72) dJ6_getChars_ba4f3_25 (by decide) (fun h => ?_) (fun h => absurd g4 h)
  refine J_aload_n dJ6_getChars_ba4f3_72 rfl rfl ?_
  refine J_iinc (v := nI (e - 1)) dJ6_getChars_ba4f3_73 rfl (nI_dec (by omega)) (by decide) rfl ?_
  refine J_iload dJ6_getChars_ba4f3_76 rfl ?_
  refine J_getstatic dJ6_getChars_ba4f3_78 SFZ_d1 rfl gJ6_83 ?_
  refine J_iload_n dJ6_getChars_ba4f3_81 rfl rfl ?_
  refine J_ineg (v := nI j) dJ6_getChars_ba4f3_82 (Int32.neg_neg) ?_
  refine J_bget dJ6_getChars_ba4f3_83 (BS_d1 _) hj ?_
  refine J_bput dJ6_getChars_ba4f3_84 ha (by omega) (by omega) (fun w1 u1 => ?_)
  refine J_iload_n dJ6_getChars_ba4f3_85 rfl rfl ?_
  refine J_bipush (v := (-9)) dJ6_getChars_ba4f3_86 (by decide) ?_
  by_cases hj9 : 10 ≤ j
  · skip
    refine J_icmp_ge (tgt := 104) dJ6_getChars_ba4f3_88 (by decide) (fun h => absurd (g3.mp h) (by omega)) (fun h => ?_)
    refine J_aload_n dJ6_getChars_ba4f3_91 rfl rfl ?_
    refine J_iinc (v := nI (e - 1 - 1)) dJ6_getChars_ba4f3_92 rfl (nI_dec (by unfold szN at he; rw [if_neg (by omega)] at he; omega)) (by decide) rfl ?_
    refine J_iload dJ6_getChars_ba4f3_95 rfl ?_
    refine J_getstatic dJ6_getChars_ba4f3_97 SFZ_d2 rfl gJ6_87 ?_
    refine J_iload_n dJ6_getChars_ba4f3_100 rfl rfl ?_
    refine J_ineg (v := nI j) dJ6_getChars_ba4f3_101 (Int32.neg_neg) ?_
    refine J_bget dJ6_getChars_ba4f3_102 (BS_d2 _) hj ?_
    refine J_bput dJ6_getChars_ba4f3_103 u1.1 (by omega) (by omega) (fun w2 u2 => ?_)
    refine J_iload dJ6_getChars_ba4f3_104 rfl ?_
    refine J_if_eq (tgt := 118) dJ6_getChars_ba4f3_106 (by decide) (fun h => ?_) (fun h => absurd rfl h)
    refine J_iload dJ6_getChars_ba4f3_118 rfl ?_
    exact J_ireturn dJ6_getChars_ba4f3_120 rfl rfl (RP_i ⟨⟨_, rfl⟩, _, u1.tr u2, fit_upd (fit_upd hg _ _) _ _⟩)
  · skip
    refine J_icmp_ge (tgt := 104) dJ6_getChars_ba4f3_88 (by decide) (fun h => ?_) (fun h => absurd (g3.mpr (by omega)) h)
    refine J_iload dJ6_getChars_ba4f3_104 rfl ?_
    refine J_if_eq (tgt := 118) dJ6_getChars_ba4f3_106 (by decide) (fun h => ?_) (fun h => absurd rfl h)
    refine J_iload dJ6_getChars_ba4f3_118 rfl ?_
    exact J_ireturn dJ6_getChars_ba4f3_120 rfl rfl (RP_i ⟨⟨_, rfl⟩, _, u1, fit_upd hg _ _⟩)
set_option maxRecDepth 100000 in
theorem t_J5_isLatin1 {w : Wd} {b a n : Nat} (h : SBo w b a n) : MC 1 mJ5_isLatin1_aae02 0 0 [.ref b] w (RPi (.int (nI 1)) w) := by
  refine MC_of pnJ5 rfl (fun v hv => by simp only [List.mem_cons, List.not_mem_nil, or_false] at hv; rcases hv with rfl <;> rfl) (Nat.le_of_ble_eq_true rfl) (Or.inr (fun E w h => RP_no E w h)) ?_
  have h0 := h
  obtain ⟨f, y, hb, ha, hf, hn, hab⟩ := h0
  show J 1 mJ5_isLatin1_aae02 0 [some (.ref b)] [] w 0 0 _
  refine J_getstatic dJ5_isLatin1_aae02_0 SFZ_cs rfl gJ5_18 ?_
  refine J_if_eq (tgt := 17) dJ5_isLatin1_aae02_3 (by decide) (fun h3 => absurd h3 (by decide)) (fun h3 => ?_)
  refine J_aload_n dJ5_isLatin1_aae02_6 rfl rfl ?_
  refine J_getfield dJ5_isLatin1_aae02_7 fJ5_22 hb rfl ?_
  refine J_if_ne (tgt := 17) dJ5_isLatin1_aae02_10 (by decide) (fun h10 => absurd rfl h10) (fun h10 => ?_)
  refine J_iconst (v := nI 1) dJ5_isLatin1_aae02_13 (by decide) ?_
  refine J_goto (tgt := 18) dJ5_isLatin1_aae02_14 (by decide) ?_
  exact J_ireturn dJ5_isLatin1_aae02_18 rfl rfl (RP_i ⟨rfl, rfl⟩)
set_option maxRecDepth 100000 in
theorem t_J5_appendI {w : Wd} {b a n j : Nat} (h : SBo w b a n) (hj : j < 100) (hk : n + szN j ≤ 16) : MC 3 mJ5_append_c97b9 0 0 [.ref b, .int (nI j)] w (RP (fun r w' => r = some (.ref b) ∧ SBo w' b a (n + szN j) ∧ KB w w' b a)) := by
  refine MC_of pnJ5 rfl (fun v hv => by simp only [List.mem_cons, List.not_mem_nil, or_false] at hv; rcases hv with rfl | rfl <;> rfl) (Nat.le_of_ble_eq_true rfl) (Or.inr (fun E w h => RP_no E w h)) ?_
  have h0 := h
  obtain ⟨f, y, hb, ha, hf, hn, hab⟩ := h0
  show J 3 mJ5_append_c97b9 0 [some (.ref b), some (.int (nI j)), none, none] [] w 0 0 _
  refine J_aload_n dJ5_append_c97b9_0 rfl rfl ?_
  refine J_getfield dJ5_append_c97b9_1 fJ5_79 hb rfl ?_
  refine J_istore_n dJ5_append_c97b9_4 rfl (by decide) rfl ?_
  refine J_iload_n dJ5_append_c97b9_5 rfl rfl ?_
  refine J_iload_n dJ5_append_c97b9_6 rfl rfl ?_
  refine K_sc (kb := 0) (sb := 0) dJ5_append_c97b9_7 YJ6_stringSize_0f7a4 kJ5_245 (t_stringSize hj) rfl rfl (Nat.le_of_ble_eq_true rfl) (by decide) (fun r1 w1 q1 => ?_)
  obtain ⟨rfl, rfl⟩ := q1
  refine K_iadd (v := nI (n + szN j)) dJ5_append_c97b9_10 (nI_add _ _) ?_
  refine J_istore_n dJ5_append_c97b9_11 rfl (by decide) rfl ?_
  refine J_aload_n dJ5_append_c97b9_12 rfl rfl ?_
  refine J_iload_n dJ5_append_c97b9_13 rfl rfl ?_
  refine K_tU (kb := 0) (sb := 0) dJ5_append_c97b9_14 YJ5_ensureCapacityInternal_d00df rfl uJ5_100 h.rc (t_ensure h hk) rfl rfl (Nat.le_of_ble_eq_true rfl) (by decide) (fun r2 w2 q2 => ?_)
  obtain ⟨rfl, rfl⟩ := q2
  refine J_aload_n dJ5_append_c97b9_17 rfl rfl ?_
  refine K_tU (kb := 0) (sb := 0) dJ5_append_c97b9_18 YJ5_isLatin1_aae02 rfl uJ5_83 h.rc (t_J5_isLatin1 h) rfl rfl (Nat.le_of_ble_eq_true rfl) (by decide) (fun r3 w3 q3 => ?_)
  obtain ⟨rfl, rfl⟩ := q3
  refine J_if_eq (tgt := 37) dJ5_append_c97b9_21 (by decide) (fun h4 => absurd h4 (by decide)) (fun h4 => ?_)
  refine J_iload_n dJ5_append_c97b9_24 rfl rfl ?_
  refine J_iload_n dJ5_append_c97b9_25 rfl rfl ?_
  refine J_aload_n dJ5_append_c97b9_26 rfl rfl ?_
  refine J_getfield dJ5_append_c97b9_27 fJ5_15 hb rfl ?_
  refine K_sc (kb := 0) (sb := 0) dJ5_append_c97b9_30 YJ6_getChars_ba4f3 kJ5_248 (t_getChars hj ha hf (Nat.le_add_left _ _) hk) rfl rfl (Nat.le_of_ble_eq_true rfl) (by decide) (fun r4 w4 q4 => ?_)
  obtain ⟨⟨z, rfl⟩, q4⟩ := q4
  have h2 := h.upB q4
  obtain ⟨f2, y2, hb2, ha2, hf2, -, -⟩ := h2
  refine J_pop dJ5_append_c97b9_33 rfl ?_
  refine J_goto (tgt := 48) dJ5_append_c97b9_34 (by decide) ?_
  refine J_aload_n dJ5_append_c97b9_48 rfl rfl ?_
  refine J_iload_n dJ5_append_c97b9_49 rfl rfl ?_
  refine K_putI dJ5_append_c97b9_50 fJ5_79 (Or.inl rfl) hb2 (Nat.le_of_ble_eq_true rfl) (fun w5 u5 => ?_)
  refine J_aload_n dJ5_append_c97b9_53 rfl rfl ?_
  exact J_areturn dJ5_append_c97b9_54 rfl (Or.inl ⟨_, rfl⟩) (RP_i ⟨rfl, ⟨f2, y2, u5.1, (u5.2.1 a hab).trans ha2, hf2, hk, hab⟩, q4.kb.tr (KB.up u5 nd_r9 (Or.inl rfl))⟩)
set_option maxRecDepth 100000 in
theorem t_appendI {w : Wd} {b a n j : Nat} (h : SBo w b a n) (hj : j < 100) (hk : n + szN j ≤ 16) : MC 4 mJ4_append_bf812 0 0 [.ref b, .int (nI j)] w (RP (fun r w' => r = some (.ref b) ∧ SBo w' b a (n + szN j) ∧ KB w w' b a)) := by
  refine MC_of pnJ4 rfl (fun v hv => by simp only [List.mem_cons, List.not_mem_nil, or_false] at hv; rcases hv with rfl | rfl <;> rfl) (Nat.le_of_ble_eq_true rfl) (Or.inr (fun E w h => RP_no E w h)) ?_
  show J 4 mJ4_append_bf812 0 [some (.ref b), some (.int (nI j))] [] w 0 0 _
  refine J_aload_n dJ4_append_bf812_0 rfl rfl ?_
  refine J_iload_n dJ4_append_bf812_1 rfl rfl ?_
  refine K_tSU (kb := 0) (sb := 0) dJ4_append_bf812_2 YJ5_append_c97b9 (by decide) sJ4_53 h (t_J5_appendI h hj hk) rfl rfl (Nat.le_of_ble_eq_true rfl) (by decide) (fun r1 w1 q1 => ?_)
  obtain ⟨rfl, q1⟩ := q1
  refine J_pop dJ4_append_bf812_5 rfl ?_
  refine J_aload_n dJ4_append_bf812_6 rfl rfl ?_
  exact J_areturn dJ4_append_bf812_7 rfl (Or.inl ⟨_, rfl⟩) (RP_i ⟨rfl, q1⟩)
set_option maxRecDepth 100000 in
theorem t_checkLength {w : Wd} {n : Nat} (hn : n ≤ 16) : MC 1 mJ7_checkLength_df160 0 0 [.int (nI 0), .int (nI n)] w (RPu w) := by
  refine MC_of pnJ7 rfl (fun v hv => by simp only [List.mem_cons, List.not_mem_nil, or_false] at hv; rcases hv with rfl | rfl <;> rfl) (Nat.le_of_ble_eq_true rfl) (Or.inr (fun E w h => RP_no E w h)) ?_
  show J 1 mJ7_checkLength_df160 0 [some (.int (nI 0)), some (.int (nI n))] [] w 0 0 _
  refine J_iload_n dJ7_checkLength_df160_0 rfl rfl ?_
  refine J_iload_n dJ7_checkLength_df160_1 rfl rfl ?_
  refine J_icmp_ge (tgt := 37) dJ7_checkLength_df160_2 (by decide) (fun h => ?_) (fun h => absurd (Int32.not_lt.mp (nI_pos (by omega))) h)
  exact J_return dJ7_checkLength_df160_37 rfl (RP_i ⟨rfl, rfl⟩)
theorem mn_16 : ∀ n, n < 17 → (if nI n < nI 16 then nI n else nI 16) = nI n := by decide +kernel
set_option maxRecDepth 100000 in
theorem t_copyRB {w : Wd} {a n : Nat} {f : Nat → Int32} (ha : w.1 a = .inl (3, 16, .inl f)) (hf : sb_Fit f) (hn : n ≤ 16) : MC 3 mJ7_copyOfRangeByte_39247 1 n [.ref a, .int (nI 0), .int (nI n)] w (RP (fun r w' => ∃ v g, r = some (.ref v) ∧ NewC w w' v (.inl (3, n, .inl g)) ∧ sb_Fit g)) := by
  refine MC_of pnJ7 rfl (fun v hv => by simp only [List.mem_cons, List.not_mem_nil, or_false] at hv; rcases hv with rfl | rfl | rfl <;> rfl) (Nat.le_of_ble_eq_true rfl) (Or.inr (fun E w h => RP_no E w h)) ?_
  show J 3 mJ7_copyOfRangeByte_39247 0 [some (.ref a), some (.int (nI 0)), some (.int (nI n)), none, none] [] w 1 n _
  refine J.widen (kb' := 0 + 1) (sb' := 0 + n) (by omega) (by omega) ?_
  refine J_iload_n dJ7_copyOfRangeByte_39247_0 rfl rfl ?_
  refine J_iload_n dJ7_copyOfRangeByte_39247_1 rfl rfl ?_
  refine K_sc (kb := 0 + 1) (sb := 0 + n) dJ7_copyOfRangeByte_39247_2 YJ7_checkLength_df160 kJ7_343 (t_checkLength hn) rfl rfl (Nat.le_of_ble_eq_true rfl) (by decide) (fun r1 w1 q1 => ?_)
  obtain ⟨rfl, rfl⟩ := q1
  refine J_iload_n dJ7_copyOfRangeByte_39247_5 rfl rfl ?_
  refine J_iload_n dJ7_copyOfRangeByte_39247_6 rfl rfl ?_
  refine K_isub (v := nI n) dJ7_copyOfRangeByte_39247_7 (nI_sub (by omega)) ?_
  refine J_istore_n dJ7_copyOfRangeByte_39247_8 rfl (by decide) rfl ?_
  refine J_iload_n dJ7_copyOfRangeByte_39247_9 rfl rfl ?_
  refine F_newa_byte (N := n) dJ7_copyOfRangeByte_39247_10 ac_byte (nI_pos (by omega)) (nI_clamp (by omega)) (by omega) (fun v w2 q2 => ?_)
  have ha2 := (q2.2.2.1 a (by have := q2.2.2.2.2 a (by rw [ha]; exact nd_l); omega)).trans ha
  refine J_astore dJ7_copyOfRangeByte_39247_12 (by decide) rfl ?_
  refine J_aload_n dJ7_copyOfRangeByte_39247_14 rfl rfl ?_
  refine J_iload_n dJ7_copyOfRangeByte_39247_15 rfl rfl ?_
  refine J_aload dJ7_copyOfRangeByte_39247_16 rfl ?_
  refine J_iconst (v := nI 0) dJ7_copyOfRangeByte_39247_18 (by decide) ?_
  refine J_aload_n dJ7_copyOfRangeByte_39247_19 rfl rfl ?_
  refine J_blen dJ7_copyOfRangeByte_39247_20 (cl16 hf ha2 (by omega)) ?_
  refine J_iload_n dJ7_copyOfRangeByte_39247_21 rfl rfl ?_
  refine K_isub (v := nI 16) dJ7_copyOfRangeByte_39247_22 (nI_sub (by omega)) ?_
  refine J_iload_n dJ7_copyOfRangeByte_39247_23 rfl rfl ?_
  refine J_min (v := nI n) dJ7_copyOfRangeByte_39247_24 kJ7_304 wMath wMin (Nat.le_of_ble_eq_true rfl) (by decide) (mn_16 n (by omega)) ?_
  refine K_bcopy (sp := 0) (dp := 0) (n := n) dJ7_copyOfRangeByte_39247_27 kJ7_150 (cl16 hf ha2 (by omega)) q2.1 (fun _ => rfl) (by omega) (by omega) (by omega) (Nat.le_of_ble_eq_true rfl) (by decide) (fun w3 g3 u3 f3 => ?_)
  refine J_aload dJ7_copyOfRangeByte_39247_30 rfl ?_
  exact J_areturn dJ7_copyOfRangeByte_39247_32 rfl (Or.inr ⟨_, rfl⟩) (RP_i ⟨v, g3, rfl, q2.up u3, f3⟩)
set_option maxRecDepth 100000 in
theorem t_copyR {w : Wd} {a n : Nat} {f : Nat → Int32} (ha : w.1 a = .inl (3, 16, .inl f)) (hf : sb_Fit f) (hn : n ≤ 16) : MC 4 mJ7_copyOfRange_39247 1 n [.ref a, .int (nI 0), .int (nI n)] w (RP (fun r w' => ∃ v g, r = some (.ref v) ∧ NewC w w' v (.inl (3, n, .inl g)) ∧ sb_Fit g)) := by
  refine MC_of pnJ7 rfl (fun v hv => by simp only [List.mem_cons, List.not_mem_nil, or_false] at hv; rcases hv with rfl | rfl | rfl <;> rfl) (Nat.le_of_ble_eq_true rfl) (Or.inr (fun E w h => RP_no E w h)) ?_
  show J 4 mJ7_copyOfRange_39247 0 [some (.ref a), some (.int (nI 0)), some (.int (nI n))] [] w 1 n _
  refine J.widen (kb' := 0 + 1) (sb' := 0 + n) (by omega) (by omega) ?_
  refine J_iload_n dJ7_copyOfRange_39247_0 rfl rfl ?_
  refine J_if_ne (tgt := 10) dJ7_copyOfRange_39247_1 (by decide) (fun h => absurd rfl h) (fun h => ?_)
  refine J_iload_n dJ7_copyOfRange_39247_4 rfl rfl ?_
  refine J_aload_n dJ7_copyOfRange_39247_5 rfl rfl ?_
  refine J_blen dJ7_copyOfRange_39247_6 (cl16 hf ha (by omega)) ?_
  by_cases e16 : n = 16
  · subst e16
    refine J_icmp_eq (tgt := 17) dJ7_copyOfRange_39247_7 (by decide) (fun h => ?_) (fun h => absurd rfl h)
    refine J_aload_n dJ7_copyOfRange_39247_17 rfl rfl ?_
    refine J_bclone (kb := 0) (sb := 0) dJ7_copyOfRange_39247_18 cJ7_310 oB_cl ha hf (Nat.le_of_ble_eq_true rfl) (by decide) (fun v w2 q2 => ?_)
    refine J_castB dJ7_copyOfRange_39247_21 (AL_in (T4 (List.mem_of_getElem? (i := 65) rfl)) rfl) q2.1 ?_
    exact J_areturn dJ7_copyOfRange_39247_24 rfl (Or.inr ⟨_, rfl⟩) (RP_i ⟨v, f, rfl, q2, hf⟩)
  · skip
    refine J_icmp_eq (tgt := 17) dJ7_copyOfRange_39247_7 (by decide) (fun h => absurd (nI_inj (by omega) (by omega) h) e16) (fun h => ?_)
    refine J_aload_n dJ7_copyOfRange_39247_10 rfl rfl ?_
    refine J_iload_n dJ7_copyOfRange_39247_11 rfl rfl ?_
    refine J_iload_n dJ7_copyOfRange_39247_12 rfl rfl ?_
    refine K_sc (kb := 0) (sb := 0) dJ7_copyOfRange_39247_13 YJ7_copyOfRangeByte_39247 kJ7_339 (t_copyRB ha hf hn) rfl rfl (Nat.le_of_ble_eq_true rfl) (by decide) (fun r2 w2 q2 => ?_)
    obtain ⟨v, g, rfl, q2⟩ := q2
    exact J_areturn dJ7_copyOfRange_39247_16 rfl (Or.inr ⟨_, rfl⟩) (RP_i ⟨v, g, rfl, q2⟩)
set_option maxRecDepth 100000 in
theorem t_getValue {w : Wd} {b a n : Nat} (h : SBo w b a n) : MC 1 mJ5_getValue_6d5f1 0 0 [.ref b] w (RPi (.ref a) w) := by
  refine MC_of pnJ5 rfl (fun v hv => by simp only [List.mem_cons, List.not_mem_nil, or_false] at hv; rcases hv with rfl <;> rfl) (Nat.le_of_ble_eq_true rfl) (Or.inr (fun E w h => RP_no E w h)) ?_
  have h0 := h
  obtain ⟨f, y, hb, ha, hf, hn, hab⟩ := h0
  show J 1 mJ5_getValue_6d5f1 0 [some (.ref b)] [] w 0 0 _
  refine J_aload_n dJ5_getValue_6d5f1_0 rfl rfl ?_
  refine J_getfield dJ5_getValue_6d5f1_1 fJ5_15 hb rfl ?_
  exact J_areturn dJ5_getValue_6d5f1_4 rfl (Or.inr ⟨_, rfl⟩) (RP_i ⟨rfl, rfl⟩)
set_option maxRecDepth 100000 in
theorem t_J5_length {w : Wd} {b a n : Nat} (h : SBo w b a n) : MC 1 mJ5_length_8abf5 0 0 [.ref b] w (RPi (.int (nI n)) w) := by
  refine MC_of pnJ5 rfl (fun v hv => by simp only [List.mem_cons, List.not_mem_nil, or_false] at hv; rcases hv with rfl <;> rfl) (Nat.le_of_ble_eq_true rfl) (Or.inr (fun E w h => RP_no E w h)) ?_
  have h0 := h
  obtain ⟨f, y, hb, ha, hf, hn, hab⟩ := h0
  show J 1 mJ5_length_8abf5 0 [some (.ref b)] [] w 0 0 _
  refine J_aload_n dJ5_length_8abf5_0 rfl rfl ?_
  refine J_getfield dJ5_length_8abf5_1 fJ5_79 hb rfl ?_
  exact J_ireturn dJ5_length_8abf5_4 rfl rfl (RP_i ⟨rfl, rfl⟩)
set_option maxRecDepth 100000 in
theorem t_J4_length {w : Wd} {b a n : Nat} (h : SBo w b a n) : MC 2 mJ4_length_8abf5 0 0 [.ref b] w (RPi (.int (nI n)) w) := by
  refine MC_of pnJ4 rfl (fun v hv => by simp only [List.mem_cons, List.not_mem_nil, or_false] at hv; rcases hv with rfl <;> rfl) (Nat.le_of_ble_eq_true rfl) (Or.inr (fun E w h => RP_no E w h)) ?_
  show J 2 mJ4_length_8abf5 0 [some (.ref b)] [] w 0 0 _
  refine J_aload_n dJ4_length_8abf5_0 rfl rfl ?_
  refine K_tSU (kb := 0) (sb := 0) dJ4_length_8abf5_1 YJ5_length_8abf5 (by decide) sJ4_343 h (t_J5_length h) rfl rfl (Nat.le_of_ble_eq_true rfl) (by decide) (fun r1 w1 q1 => ?_)
  obtain ⟨rfl, rfl⟩ := q1
  exact J_ireturn dJ4_length_8abf5_4 rfl rfl (RP_i ⟨rfl, rfl⟩)
set_option maxRecDepth 100000 in
theorem t_initV {w : Wd} {b a n : Nat} (h : SBo w b a n) {s : Nat} (hs : w.1 s = .inr (0, [.null, .int 0, .int 0, .int 0])) : MC 5 mJ0_init_db425 1 n [.ref s, .ref b, .null] w (RP (fun r w' => r = none ∧ ∃ v g, w'.1 s = .inr (0, [.ref v, .int 0, .int 0, .int 0]) ∧ w'.1 v = .inl (3, n, .inl g) ∧ sb_Fit g ∧ (∀ e, w.1 e ≠ dead → e < v) ∧ (∀ c, c ≠ s → c ≠ v → w'.1 c = w.1 c))) := by
  refine MC_of pnJ0 rfl (fun v hv => by simp only [List.mem_cons, List.not_mem_nil, or_false] at hv; rcases hv with rfl | rfl | rfl <;> rfl) (Nat.le_of_ble_eq_true rfl) (Or.inr (fun E w h => RP_no E w h)) ?_
  have h0 := h
  obtain ⟨f, y, hb, ha, hf, hn, hab⟩ := h0
  have hsb : s ≠ b := fun e => by rw [e, hb] at hs; injection hs with hs; injection hs with hs; exact absurd hs (by decide)
  have hsa : a ≠ s := fun e => by rw [← e, ha] at hs; cases hs
  show J 5 mJ0_init_db425 0 [some (.ref s), some (.ref b), some (.null), none, none] [] w 1 n _
  refine J_aload_n dJ0_init_db425_0 rfl rfl ?_
  refine J_objInit dJ0_init_db425_1 kJ0_1 (Nat.le_of_ble_eq_true rfl) (by decide) ?_
  refine J_aload_n dJ0_init_db425_4 rfl rfl ?_
  refine K_tU (kb := 1) (sb := n) dJ0_init_db425_5 YJ5_getValue_6d5f1 rfl uJ0_552 h.rc (t_getValue h) rfl rfl (Nat.le_of_ble_eq_true rfl) (by decide) (fun r1 w1 q1 => ?_)
  obtain ⟨rfl, rfl⟩ := q1
  refine J_astore_n dJ0_init_db425_8 rfl (by decide) rfl ?_
  refine J_aload_n dJ0_init_db425_9 rfl rfl ?_
  refine K_tO (kb := 1) (sb := n) (x := yJ5_length_8abf5) dJ0_init_db425_10 YJ4_length_8abf5 o549 w4_193 (by decide +kernel) h (t_J4_length h) rfl rfl (Nat.le_of_ble_eq_true rfl) (by decide) (fun r2 w2 q2 => ?_)
  obtain ⟨rfl, rfl⟩ := q2
  refine J_istore dJ0_init_db425_13 (by decide) rfl ?_
  refine J_aload_n dJ0_init_db425_15 rfl rfl ?_
  refine K_tU (kb := 1) (sb := n) dJ0_init_db425_16 YJ5_isLatin1_aae02 rfl uJ0_1047 h.rc (t_J5_isLatin1 h) rfl rfl (Nat.le_of_ble_eq_true rfl) (by decide) (fun r3 w3 q3 => ?_)
  obtain ⟨rfl, rfl⟩ := q3
  refine J_if_eq (tgt := 41) dJ0_init_db425_19 (by decide) (fun h4 => absurd h4 (by decide)) (fun h4 => ?_)
  refine J_aload_n dJ0_init_db425_22 rfl rfl ?_
  refine J_iconst (v := nI 0) dJ0_init_db425_23 (by decide) ?_
  refine K_putB dJ0_init_db425_24 fJ0_15 (Or.inr ⟨rfl, rfl⟩) hs (by decide) (fun w4 u4 => ?_)
  have ha4 := (u4.2.1 a hsa).trans ha
  refine J_aload_n dJ0_init_db425_27 rfl rfl ?_
  refine J_aload_n dJ0_init_db425_28 rfl rfl ?_
  refine J_iconst (v := nI 0) dJ0_init_db425_29 (by decide) ?_
  refine J_iload dJ0_init_db425_30 rfl ?_
  refine J.widen (kb' := 0 + 1) (sb' := 0 + n) (by omega) (by omega) ?_
  refine K_sc (kb := 0) (sb := 0) dJ0_init_db425_32 YJ7_copyOfRange_39247 kJ0_54 (t_copyR ha4 hf hn) rfl rfl (Nat.le_of_ble_eq_true rfl) (by decide) (fun r5 w5 q5 => ?_)
  obtain ⟨v, g, rfl, q5, g5⟩ := q5
  have hsv : s < v := q5.2.2.2.2 s (by rw [u4.1]; exact nd_r0)
  have hs5 := (q5.2.2.1 s (by omega)).trans u4.1
  refine K_putR dJ0_init_db425_35 fJ0_9 (Or.inr ⟨rfl, rfl⟩) hs5 (by decide) (Or.inr ⟨_, rfl⟩) (fun w6 u6 => ?_)
  refine J_goto (tgt := 97) dJ0_init_db425_38 (by decide) ?_
  exact J_return dJ0_init_db425_97 rfl (RP_i ⟨rfl, v, g, u6.1, (u6.2.1 v (by omega)).trans q5.1, g5, fun e he => q5.2.2.2.2 e (fun e9 => by
    by_cases es : e = s
    · rw [es, u4.1] at e9; exact nd_r0 e9
    · exact he ((u4.2.1 e es).symm.trans e9)), fun c c1 c2 => (u6.2.1 c c1).trans ((q5.2.2.1 c c2).trans (u4.2.1 c c1))⟩)
set_option maxRecDepth 100000 in
theorem t_initS {w : Wd} {b a n : Nat} (h : SBo w b a n) {s : Nat} (hs : w.1 s = .inr (0, [.null, .int 0, .int 0, .int 0])) : MC 6 mJ0_init_81219 1 n [.ref s, .ref b] w (RP (fun r w' => r = none ∧ ∃ v g, w'.1 s = .inr (0, [.ref v, .int 0, .int 0, .int 0]) ∧ w'.1 v = .inl (3, n, .inl g) ∧ sb_Fit g ∧ (∀ e, w.1 e ≠ dead → e < v) ∧ (∀ c, c ≠ s → c ≠ v → w'.1 c = w.1 c))) := by
  refine MC_of pnJ0 rfl (fun v hv => by simp only [List.mem_cons, List.not_mem_nil, or_false] at hv; rcases hv with rfl | rfl <;> rfl) (Nat.le_of_ble_eq_true rfl) (Or.inr (fun E w h => RP_no E w h)) ?_
  show J 6 mJ0_init_81219 0 [some (.ref s), some (.ref b)] [] w 1 n _
  refine J.widen (kb' := 0 + 1) (sb' := 0 + n) (by omega) (by omega) ?_
  refine J_aload_n dJ0_init_81219_0 rfl rfl ?_
  refine J_aload_n dJ0_init_81219_1 rfl rfl ?_
  refine J_null dJ0_init_81219_2 ?_
  refine K_tI (kb := 0) (sb := 0) dJ0_init_81219_3 YJ0_init_db425 rfl rfl kJ0_489 (t_initV h hs) rfl rfl (Nat.le_of_ble_eq_true rfl) (by decide) (fun r1 w1 q1 => ?_)
  obtain ⟨rfl, q1⟩ := q1
  exact J_return dJ0_init_81219_6 rfl (RP_i ⟨rfl, q1⟩)
set_option maxRecDepth 100000 in
theorem t_toString {w : Wd} {b a n : Nat} (h : SBo w b a n) (hn : n ≤ 16) : MC 7 mJ4_toString_0e30d 2 (n + 4) [.ref b] w (RP (fun r w' => ∃ s v g, r = some (.ref s) ∧ VStr w' s v n g ∧ w'.1 s ≠ dead ∧ w'.1 v = .inl (3, n, .inl g) ∧ (∃ y z, w'.1 s = .inr (0, [.ref v, .int 0, y, z])) ∧ (∀ e, w.1 e ≠ dead → e < s ∧ e < v) ∧ KB w w' b a)) := by
  refine MC_of pnJ4 rfl (fun v hv => by simp only [List.mem_cons, List.not_mem_nil, or_false] at hv; rcases hv with rfl <;> rfl) (Nat.le_of_ble_eq_true rfl) (Or.inr (fun E w h => RP_no E w h)) ?_
  show J 7 mJ4_toString_0e30d 0 [some (.ref b)] [] w 2 (n + 4) _
  refine J.widen (kb' := 0 + 1 + 1) (sb' := 0 + n + 4) (by omega) (by omega) ?_
  refine F_new (kb := 0 + 1) (sb := 0 + n) dJ4_toString_0e30d_0 nJ4_18 (fun s w1 q1 => ?_)
  have l1 := q1.2.2.2.2 b h.lv.1
  have l2 := q1.2.2.2.2 a h.lv.2
  have h1 : SBo w1 b a n := h.kb (KB.new q1 nd_r0 s s) (by omega) (by omega)
  refine J_dup dJ4_toString_0e30d_3 rfl ?_
  refine J_aload_n dJ4_toString_0e30d_4 rfl rfl ?_
  refine K_tI (kb := 0) (sb := 0) dJ4_toString_0e30d_5 YJ0_init_81219 rfl rfl kJ4_137 (t_initS h1 q1.1) rfl rfl (Nat.le_of_ble_eq_true rfl) (by decide) (fun r2 w2 q2 => ?_)
  obtain ⟨rfl, v, g, g1, g2, g3, g4, g5⟩ := q2
  have hsv : s < v := g4 s (by rw [q1.1]; exact nd_r0)
  exact J_areturn dJ4_toString_0e30d_8 rfl (Or.inl ⟨_, rfl⟩) (RP_i ⟨s, v, g, rfl, ⟨cl16 g3 g2 (by omega), Or.inr ⟨_, _, g1⟩⟩, by rw [g1]; exact nd_r0, g2, ⟨_, _, g1⟩, fun e he => by have := q1.2.2.2.2 e he; omega, ⟨fun e he => by
    have := q1.2.2.2.2 e he
    rw [g5 e (by omega) (by omega), q1.2.2.1 e (by omega)]
    exact he, fun c ⟨e, e1, e2⟩ _ _ => by
    have := q1.2.2.2.2 e e2
    rw [g5 c (by omega) (by omega), q1.2.2.1 c (by omega)]⟩⟩)
end JTXB

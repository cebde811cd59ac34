/-! WHAT IS THROWN;  -/
section JTHR
def exN : Nat → String
  | 1 => "java/lang/IndexOutOfBoundsException"
  | 2 => "java/lang/IllegalArgumentException"
  | 3 => "java/lang/IllegalStateException"
  | 4 => "java/lang/UnsupportedOperationException"
  | 5 => "java/util/NoSuchElementException"
  | _ => "java/lang/ArithmeticException"
set_option maxRecDepth 100000 in
theorem tw1 : ∀ w ∈ (jAt RX8 271 "java/lang/IndexOutOfBoundsException" 7 prog_24_method_2_code).filter vx_no, w ∈ lw_tbl ∧ (goodWord w || isDC w) = true := by decide +kernel
theorem tb1 : decode prog_24_method_2_code 0 = .ok (.aload_n 0, 1) ∧ decode prog_24_method_2_code 1 = .ok (.aload_n 1, 1) ∧ decode prog_24_method_2_code 2 = .ok (.invokespecial 7, 3) ∧ decode prog_24_method_2_code 5 = .ok (.return_, 1) := by decide +kernel
theorem ti1 : Cond.initialized "java/lang/IndexOutOfBoundsException" ∈ AL := AL_in (T1 (List.mem_of_getElem? (i := 13) rfl)) rfl
set_option maxRecDepth 100000 in
theorem tw2 : ∀ w ∈ (jAt RX8 298 "java/lang/IllegalArgumentException" 7 prog_22_method_2_code).filter vx_no, w ∈ lw_tbl ∧ (goodWord w || isDC w) = true := by decide +kernel
theorem tb2 : decode prog_22_method_2_code 0 = .ok (.aload_n 0, 1) ∧ decode prog_22_method_2_code 1 = .ok (.aload_n 1, 1) ∧ decode prog_22_method_2_code 2 = .ok (.invokespecial 7, 3) ∧ decode prog_22_method_2_code 5 = .ok (.return_, 1) := by decide +kernel
theorem ti2 : Cond.initialized "java/lang/IllegalArgumentException" ∈ AL := AL_in (T1 (List.mem_of_getElem? (i := 18) rfl)) rfl
set_option maxRecDepth 100000 in
theorem tw3 : ∀ w ∈ (jAt RX8 288 "java/lang/IllegalStateException" 7 prog_23_method_2_code).filter vx_no, w ∈ lw_tbl ∧ (goodWord w || isDC w) = true := by decide +kernel
theorem tb3 : decode prog_23_method_2_code 0 = .ok (.aload_n 0, 1) ∧ decode prog_23_method_2_code 1 = .ok (.aload_n 1, 1) ∧ decode prog_23_method_2_code 2 = .ok (.invokespecial 7, 3) ∧ decode prog_23_method_2_code 5 = .ok (.return_, 1) := by decide +kernel
theorem ti3 : Cond.initialized "java/lang/IllegalStateException" ∈ AL := AL_in (T1 (List.mem_of_getElem? (i := 19) rfl)) rfl
set_option maxRecDepth 100000 in
theorem tw4 : ∀ w ∈ (jAt RX8 327 "java/lang/UnsupportedOperationException" 7 prog_35_method_2_code).filter vx_no, w ∈ lw_tbl ∧ (goodWord w || isDC w) = true := by decide +kernel
theorem tb4 : decode prog_35_method_2_code 0 = .ok (.aload_n 0, 1) ∧ decode prog_35_method_2_code 1 = .ok (.aload_n 1, 1) ∧ decode prog_35_method_2_code 2 = .ok (.invokespecial 7, 3) ∧ decode prog_35_method_2_code 5 = .ok (.return_, 1) := by decide +kernel
theorem ti4 : Cond.initialized "java/lang/UnsupportedOperationException" ∈ AL := AL_in (T1 (List.mem_of_getElem? (i := 20) rfl)) rfl
set_option maxRecDepth 100000 in
theorem tw5 : ∀ w ∈ (jAt RX8 233 "java/util/NoSuchElementException" 13 prog_39_method_4_code).filter vx_no, w ∈ lw_tbl ∧ (goodWord w || isDC w) = true := by decide +kernel
theorem tb5 : decode prog_39_method_4_code 0 = .ok (.aload_n 0, 1) ∧ decode prog_39_method_4_code 1 = .ok (.aload_n 1, 1) ∧ decode prog_39_method_4_code 2 = .ok (.invokespecial 13, 3) ∧ decode prog_39_method_4_code 5 = .ok (.return_, 1) := by decide +kernel
theorem ti5 : Cond.initialized "java/util/NoSuchElementException" ∈ AL := AL_in (T1 (List.mem_of_getElem? (i := 16) rfl)) rfl
set_option maxRecDepth 100000 in
theorem tw6 : ∀ w ∈ (jAt RX8 246 "java/lang/ArithmeticException" 7 prog_15_method_2_code).filter vx_no, w ∈ lw_tbl ∧ (goodWord w || isDC w) = true := by decide +kernel
theorem tb6 : decode prog_15_method_2_code 0 = .ok (.aload_n 0, 1) ∧ decode prog_15_method_2_code 1 = .ok (.aload_n 1, 1) ∧ decode prog_15_method_2_code 2 = .ok (.invokespecial 7, 3) ∧ decode prog_15_method_2_code 5 = .ok (.return_, 1) := by decide +kernel
theorem ti6 : Cond.initialized "java/lang/ArithmeticException" ∈ AL := AL_in (T1 (List.mem_of_getElem? (i := 32) rfl)) rfl
theorem thX8_ticksUntilArrival_18 : ThrI mX8_ticksUntilArrival 18 (exN 5) := ⟨229, 231, 233, 2, 13, prog_39_method_4_code, "the train has no goal", List.mem_of_getElem? (i := 7) rfl, dX8_ticksUntilArrival_18, dX8_ticksUntilArrival_21, Or.inl ⟨rfl, dX8_ticksUntilArrival_22⟩, dX8_ticksUntilArrival_24, dX8_ticksUntilArrival_27, clX8_229, ti5, by decide +kernel, tb5, tw5, rfl⟩
theorem thX8_meanWaits_10 : ThrI mX8_meanWaits 10 (exN 6) := ⟨242, 244, 246, 2, 7, prog_15_method_2_code, "there are no trains", List.mem_of_getElem? (i := 8) rfl, dX8_meanWaits_10, dX8_meanWaits_13, Or.inl ⟨rfl, dX8_meanWaits_14⟩, dX8_meanWaits_16, dX8_meanWaits_19, clX8_242, ti6, by decide +kernel, tb6, tw6, rfl⟩
theorem thX8_occupiedFraction_10 : ThrI mX8_occupiedFraction 10 (exN 6) := ⟨242, 251, 246, 2, 7, prog_15_method_2_code, "there are no blocks", List.mem_of_getElem? (i := 9) rfl, dX8_occupiedFraction_10, dX8_occupiedFraction_13, Or.inl ⟨rfl, dX8_occupiedFraction_14⟩, dX8_occupiedFraction_16, dX8_occupiedFraction_19, clX8_242, ti6, by decide +kernel, tb6, tw6, rfl⟩
theorem thX8_feed_11 : ThrI mX8_feed 11 (exN 3) := ⟨284, 286, 288, 3, 7, prog_23_method_2_code, "the input buffer is full", List.mem_of_getElem? (i := 10) rfl, dX8_feed_11, dX8_feed_14, Or.inr ⟨rfl, dX8_feed_15⟩, dX8_feed_18, dX8_feed_21, clX8_284, ti3, by decide +kernel, tb3, tw3, rfl⟩
theorem thX8_execute_25 : ThrI mX8_execute 25 (exN 2) := ⟨294, 296, 298, 3, 7, prog_22_method_2_code, "the text is malformed", List.mem_of_getElem? (i := 11) rfl, dX8_execute_25, dX8_execute_28, Or.inr ⟨rfl, dX8_execute_29⟩, dX8_execute_32, dX8_execute_35, clX8_294, ti2, by decide +kernel, tb2, tw2, rfl⟩
theorem thX8_execute_149 : ThrI mX8_execute 149 (exN 4) := ⟨323, 325, 327, 3, 7, prog_35_method_2_code, "a command failed", List.mem_of_getElem? (i := 12) rfl, dX8_execute_149, dX8_execute_152, Or.inr ⟨rfl, dX8_execute_153⟩, dX8_execute_156, dX8_execute_159, clX8_323, ti4, by decide +kernel, tb4, tw4, rfl⟩
theorem thX8_undo_10 : ThrI mX8_undo 10 (exN 3) := ⟨284, 331, 288, 3, 7, prog_23_method_2_code, "there is nothing to undo", List.mem_of_getElem? (i := 13) rfl, dX8_undo_10, dX8_undo_13, Or.inr ⟨rfl, dX8_undo_14⟩, dX8_undo_17, dX8_undo_20, clX8_284, ti3, by decide +kernel, tb3, tw3, rfl⟩
theorem thX8_restore_7 : ThrI mX8_restore 7 (exN 3) := ⟨284, 336, 288, 3, 7, prog_23_method_2_code, "nothing was saved", List.mem_of_getElem? (i := 14) rfl, dX8_restore_7, dX8_restore_10, Or.inr ⟨rfl, dX8_restore_11⟩, dX8_restore_14, dX8_restore_17, clX8_284, ti3, by decide +kernel, tb3, tw3, rfl⟩
theorem thX8_needBlock_11 : ThrI mX8_needBlock 11 (exN 1) := ⟨267, 345, 271, 3, 7, prog_24_method_2_code, "there is no such block", List.mem_of_getElem? (i := 5) rfl, dX8_needBlock_11, dX8_needBlock_14, Or.inr ⟨rfl, dX8_needBlock_15⟩, dX8_needBlock_18, dX8_needBlock_21, clX8_267, ti1, by decide +kernel, tb1, tw1, rfl⟩
theorem thX8_needTrain_11 : ThrI mX8_needTrain 11 (exN 1) := ⟨267, 350, 271, 3, 7, prog_24_method_2_code, "there is no such train", List.mem_of_getElem? (i := 6) rfl, dX8_needTrain_11, dX8_needTrain_14, Or.inr ⟨rfl, dX8_needTrain_15⟩, dX8_needTrain_18, dX8_needTrain_21, clX8_267, ti1, by decide +kernel, tb1, tw1, rfl⟩
theorem thX8_found_5 : ThrI mX8_found 5 (exN 5) := ⟨229, 352, 233, 3, 13, prog_39_method_4_code, "there is none", List.mem_of_getElem? (i := 4) rfl, dX8_found_5, dX8_found_8, Or.inr ⟨rfl, dX8_found_9⟩, dX8_found_12, dX8_found_15, clX8_229, ti5, by decide +kernel, tb5, tw5, rfl⟩
theorem thX8_changed_6 : ThrI mX8_changed 6 (exN 1) := ⟨267, 354, 271, 3, 7, prog_24_method_2_code, "there is no such block or train", List.mem_of_getElem? (i := 0) rfl, dX8_changed_6, dX8_changed_9, Or.inr ⟨rfl, dX8_changed_10⟩, dX8_changed_13, dX8_changed_16, clX8_267, ti1, by decide +kernel, tb1, tw1, rfl⟩
theorem thX8_changed_23 : ThrI mX8_changed 23 (exN 2) := ⟨294, 356, 298, 3, 7, prog_22_method_2_code, "this argument is not allowed", List.mem_of_getElem? (i := 1) rfl, dX8_changed_23, dX8_changed_26, Or.inr ⟨rfl, dX8_changed_27⟩, dX8_changed_30, dX8_changed_33, clX8_294, ti2, by decide +kernel, tb2, tw2, rfl⟩
theorem thX8_changed_40 : ThrI mX8_changed 40 (exN 3) := ⟨284, 358, 288, 3, 7, prog_23_method_2_code, "the railway is not in the state for this", List.mem_of_getElem? (i := 2) rfl, dX8_changed_40, dX8_changed_43, Or.inr ⟨rfl, dX8_changed_44⟩, dX8_changed_47, dX8_changed_50, clX8_284, ti3, by decide +kernel, tb3, tw3, rfl⟩
theorem thX8_changed_57 : ThrI mX8_changed 57 (exN 4) := ⟨323, 360, 327, 3, 7, prog_35_method_2_code, "the block does not allow this", List.mem_of_getElem? (i := 3) rfl, dX8_changed_57, dX8_changed_60, Or.inr ⟨rfl, dX8_changed_61⟩, dX8_changed_64, dX8_changed_67, clX8_323, ti4, by decide +kernel, tb4, tw4, rfl⟩
theorem thX8_changed_74 : ThrI mX8_changed 74 (exN 5) := ⟨229, 352, 233, 3, 13, prog_39_method_4_code, "there is none", List.mem_of_getElem? (i := 4) rfl, dX8_changed_74, dX8_changed_77, Or.inr ⟨rfl, dX8_changed_78⟩, dX8_changed_81, dX8_changed_84, clX8_229, ti5, by decide +kernel, tb5, tw5, rfl⟩
def G0 : Gme := ((S0, S0, false), ((fun _ => S0), 0), [], ((fun _ => 0), 0), (none, none))
end JTHR

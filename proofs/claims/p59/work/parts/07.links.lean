section JLINKS
theorem T0 {w : Cond} (h : w ∈ k2_sels lw_privs) : w ∈ lw_tbl := List.mem_append_left _ h
theorem T1 {w : Cond} (h : w ∈ tables_1_1) : w ∈ lw_tbl := List.mem_append_right _ (List.mem_append_left _ h)
theorem T2 {w : Cond} (h : w ∈ tables_1_2) : w ∈ lw_tbl := List.mem_append_right _ (List.mem_append_right _ (List.mem_append_left _ h))
theorem T3 {w : Cond} (h : w ∈ tables_1_3) : w ∈ lw_tbl := List.mem_append_right _ (List.mem_append_right _ (List.mem_append_right _ (List.mem_append_left _ h)))
theorem T4 {w : Cond} (h : w ∈ tables_1_4) : w ∈ lw_tbl := List.mem_append_right _ (List.mem_append_right _ (List.mem_append_right _ (List.mem_append_right _ (List.mem_append_left _ h))))
theorem T5 {w : Cond} (h : w ∈ tables_1_5) : w ∈ lw_tbl := List.mem_append_right _ (List.mem_append_right _ (List.mem_append_right _ (List.mem_append_right _ (List.mem_append_right _ (List.mem_append_left _ h)))))
theorem T6 {w : Cond} (h : w ∈ tables_1_6) : w ∈ lw_tbl := List.mem_append_right _ (List.mem_append_right _ (List.mem_append_right _ (List.mem_append_right _ (List.mem_append_right _ (List.mem_append_right _ h)))))
abbrev mX2_init : MI := (yX2_init, cX2_init, 1, none, [])
theorem w1_183 : Cond.code yX2_init cX2_init 1 none ∈ AL := AL_in (T1 (List.mem_of_getElem? (i := 183) rfl)) rfl
theorem w1_6 : Cond.initialized RX2 ∈ AL := AL_in (T1 (List.mem_of_getElem? (i := 6) rfl)) rfl
theorem YX2_init : YL mX2_init 0 := ⟨rfl, w1_183, w1_6, ⟨by decide, by decide, by decide +kernel⟩, by decide⟩
abbrev mX2_append : MI := (yX2_append, cX2_append, 2, (some .boolean), [])
theorem w5_34 : Cond.code yX2_append cX2_append 2 (some .boolean) ∈ AL := AL_in (T5 (List.mem_of_getElem? (i := 34) rfl)) rfl
theorem YX2_append : YL mX2_append 1 := ⟨rfl, w5_34, w1_6, ⟨by decide, by decide, by decide +kernel⟩, by decide⟩
abbrev mX2_clear : MI := (yX2_clear, cX2_clear, 1, none, [])
theorem w5_79 : Cond.code yX2_clear cX2_clear 1 none ∈ AL := AL_in (T5 (List.mem_of_getElem? (i := 79) rfl)) rfl
theorem YX2_clear : YL mX2_clear 0 := ⟨rfl, w5_79, w1_6, ⟨by decide, by decide, by decide +kernel⟩, by decide⟩
abbrev mX2_rewind : MI := (yX2_rewind, cX2_rewind, 1, none, [])
theorem w5_50 : Cond.code yX2_rewind cX2_rewind 1 none ∈ AL := AL_in (T5 (List.mem_of_getElem? (i := 50) rfl)) rfl
theorem YX2_rewind : YL mX2_rewind 0 := ⟨rfl, w5_50, w1_6, ⟨by decide, by decide, by decide +kernel⟩, by decide⟩
abbrev mX2_findError : MI := (yX2_findError, cX2_findError, 2, (some .int), [])
theorem w5_46 : Cond.code yX2_findError cX2_findError 2 (some .int) ∈ AL := AL_in (T5 (List.mem_of_getElem? (i := 46) rfl)) rfl
theorem YX2_findError : YL mX2_findError 0 := ⟨rfl, w5_46, w1_6, ⟨by decide, by decide, by decide +kernel⟩, by decide⟩
abbrev mX2_readCommand : MI := (yX2_readCommand, cX2_readCommand, 7, (some .boolean), [])
theorem w5_54 : Cond.code yX2_readCommand cX2_readCommand 7 (some .boolean) ∈ AL := AL_in (T5 (List.mem_of_getElem? (i := 54) rfl)) rfl
theorem YX2_readCommand : YL mX2_readCommand 0 := ⟨rfl, w5_54, w1_6, ⟨by decide, by decide, by decide +kernel⟩, by decide⟩
abbrev mX2_closeCommand : MI := (yX2_closeCommand, cX2_closeCommand, 2, (some .boolean), [])
theorem w5_74 : Cond.code yX2_closeCommand cX2_closeCommand 2 (some .boolean) ∈ AL := AL_in (T5 (List.mem_of_getElem? (i := 74) rfl)) rfl
theorem YX2_closeCommand : YL mX2_closeCommand 1 := ⟨rfl, w5_74, w1_6, ⟨by decide, by decide, by decide +kernel⟩, by decide⟩
abbrev mX2_match : MI := (yX2_match, cX2_match, 8, (some .int), [])
theorem w5_60 : Cond.code yX2_match cX2_match 8 (some .int) ∈ AL := AL_in (T5 (List.mem_of_getElem? (i := 60) rfl)) rfl
theorem YX2_match : YL mX2_match 2 := ⟨rfl, w5_60, w1_6, ⟨by decide, by decide, by decide +kernel⟩, by decide⟩
abbrev mX2_putNumber : MI := (yX2_putNumber, cX2_putNumber, 6, none, [])
theorem w5_70 : Cond.code yX2_putNumber cX2_putNumber 6 none ∈ AL := AL_in (T5 (List.mem_of_getElem? (i := 70) rfl)) rfl
theorem YX2_putNumber : YL mX2_putNumber 3 := ⟨rfl, w5_70, w1_6, ⟨by decide, by decide, by decide +kernel⟩, by decide⟩
abbrev mX2_isDigit : MI := (yX2_isDigit, cX2_isDigit, 2, (some .boolean), [])
theorem w5_66 : Cond.code yX2_isDigit cX2_isDigit 2 (some .boolean) ∈ AL := AL_in (T5 (List.mem_of_getElem? (i := 66) rfl)) rfl
theorem YX2_isDigit : YL mX2_isDigit 1 := ⟨rfl, w5_66, w1_6, ⟨by decide, by decide, by decide +kernel⟩, by decide⟩
abbrev mX3_init : MI := (yX3_init, cX3_init, 2, none, [])
theorem w1_126 : Cond.code yX3_init cX3_init 2 none ∈ AL := AL_in (T1 (List.mem_of_getElem? (i := 126) rfl)) rfl
theorem w1_3 : Cond.initialized RX3 ∈ AL := AL_in (T1 (List.mem_of_getElem? (i := 3) rfl)) rfl
theorem YX3_init : YL mX3_init 0 := ⟨rfl, w1_126, w1_3, ⟨by decide, by decide, by decide +kernel⟩, by decide⟩
abbrev mX3_keep : MI := (yX3_keep, cX3_keep, 2, none, [])
theorem w3_20 : Cond.code yX3_keep cX3_keep 2 none ∈ AL := AL_in (T3 (List.mem_of_getElem? (i := 20) rfl)) rfl
theorem YX3_keep : YL mX3_keep 1 := ⟨rfl, w3_20, w1_3, ⟨by decide, by decide, by decide +kernel⟩, by decide⟩
abbrev mX3_confirm : MI := (yX3_confirm, cX3_confirm, 1, none, [])
theorem w3_82 : Cond.code yX3_confirm cX3_confirm 1 none ∈ AL := AL_in (T3 (List.mem_of_getElem? (i := 82) rfl)) rfl
theorem YX3_confirm : YL mX3_confirm 0 := ⟨rfl, w3_82, w1_3, ⟨by decide, by decide, by decide +kernel⟩, by decide⟩
abbrev mX3_revert : MI := (yX3_revert, cX3_revert, 2, none, [])
theorem w5_98 : Cond.code yX3_revert cX3_revert 2 none ∈ AL := AL_in (T5 (List.mem_of_getElem? (i := 98) rfl)) rfl
theorem YX3_revert : YL mX3_revert 1 := ⟨rfl, w5_98, w1_3, ⟨by decide, by decide, by decide +kernel⟩, by decide⟩
abbrev mX3_stepBack : MI := (yX3_stepBack, cX3_stepBack, 2, (some .int), [])
theorem w6_147 : Cond.code yX3_stepBack cX3_stepBack 2 (some .int) ∈ AL := AL_in (T6 (List.mem_of_getElem? (i := 147) rfl)) rfl
theorem YX3_stepBack : YL mX3_stepBack 1 := ⟨rfl, w6_147, w1_3, ⟨by decide, by decide, by decide +kernel⟩, by decide⟩
abbrev mX3_forget : MI := (yX3_forget, cX3_forget, 1, none, [])
theorem w6_159 : Cond.code yX3_forget cX3_forget 1 none ∈ AL := AL_in (T6 (List.mem_of_getElem? (i := 159) rfl)) rfl
theorem YX3_forget : YL mX3_forget 0 := ⟨rfl, w6_159, w1_3, ⟨by decide, by decide, by decide +kernel⟩, by decide⟩
abbrev mX4_init : MI := (yX4_init, cX4_init, 1, none, [])
theorem w1_45 : Cond.code yX4_init cX4_init 1 none ∈ AL := AL_in (T1 (List.mem_of_getElem? (i := 45) rfl)) rfl
theorem w1_2 : Cond.initialized RX4 ∈ AL := AL_in (T1 (List.mem_of_getElem? (i := 2) rfl)) rfl
theorem YX4_init : YL mX4_init 0 := ⟨rfl, w1_45, w1_2, ⟨by decide, by decide, by decide +kernel⟩, by decide⟩
abbrev mX4_copyFrom : MI := (yX4_copyFrom, cX4_copyFrom, 2, none, [])
theorem w2_183 : Cond.code yX4_copyFrom cX4_copyFrom 2 none ∈ AL := AL_in (T2 (List.mem_of_getElem? (i := 183) rfl)) rfl
theorem YX4_copyFrom : YL mX4_copyFrom 1 := ⟨rfl, w2_183, w1_2, ⟨by decide, by decide, by decide +kernel⟩, by decide⟩
abbrev mX4_isBlock : MI := (yX4_isBlock, cX4_isBlock, 2, (some .boolean), [])
theorem w3_107 : Cond.code yX4_isBlock cX4_isBlock 2 (some .boolean) ∈ AL := AL_in (T3 (List.mem_of_getElem? (i := 107) rfl)) rfl
theorem YX4_isBlock : YL mX4_isBlock 1 := ⟨rfl, w3_107, w1_2, ⟨by decide, by decide, by decide +kernel⟩, by decide⟩
abbrev mX4_isTrain : MI := (yX4_isTrain, cX4_isTrain, 2, (some .boolean), [])
theorem w2_139 : Cond.code yX4_isTrain cX4_isTrain 2 (some .boolean) ∈ AL := AL_in (T2 (List.mem_of_getElem? (i := 139) rfl)) rfl
theorem YX4_isTrain : YL mX4_isTrain 1 := ⟨rfl, w2_139, w1_2, ⟨by decide, by decide, by decide +kernel⟩, by decide⟩
abbrev mX4_isJoined : MI := (yX4_isJoined, cX4_isJoined, 3, (some .boolean), [])
theorem w2_223 : Cond.code yX4_isJoined cX4_isJoined 3 (some .boolean) ∈ AL := AL_in (T2 (List.mem_of_getElem? (i := 223) rfl)) rfl
theorem YX4_isJoined : YL mX4_isJoined 2 := ⟨rfl, w2_223, w1_2, ⟨by decide, by decide, by decide +kernel⟩, by decide⟩
abbrev mX4_trainAt : MI := (yX4_trainAt, cX4_trainAt, 3, (some .int), [])
theorem w2_236 : Cond.code yX4_trainAt cX4_trainAt 3 (some .int) ∈ AL := AL_in (T2 (List.mem_of_getElem? (i := 236) rfl)) rfl
theorem YX4_trainAt : YL mX4_trainAt 1 := ⟨rfl, w2_236, w1_2, ⟨by decide, by decide, by decide +kernel⟩, by decide⟩
abbrev mX4_holderOf : MI := (yX4_holderOf, cX4_holderOf, 3, (some .int), [])
theorem w2_232 : Cond.code yX4_holderOf cX4_holderOf 3 (some .int) ∈ AL := AL_in (T2 (List.mem_of_getElem? (i := 232) rfl)) rfl
theorem YX4_holderOf : YL mX4_holderOf 1 := ⟨rfl, w2_232, w1_2, ⟨by decide, by decide, by decide +kernel⟩, by decide⟩
abbrev mX4_signalOf : MI := (yX4_signalOf, cX4_signalOf, 2, (some .char), [])
theorem w5_136 : Cond.code yX4_signalOf cX4_signalOf 2 (some .char) ∈ AL := AL_in (T5 (List.mem_of_getElem? (i := 136) rfl)) rfl
theorem YX4_signalOf : YL mX4_signalOf 1 := ⟨rfl, w5_136, w1_2, ⟨by decide, by decide, by decide +kernel⟩, by decide⟩
abbrev mX4_trainAtRank : MI := (yX4_trainAtRank, cX4_trainAtRank, 5, (some .int), [])
theorem w2_198 : Cond.code yX4_trainAtRank cX4_trainAtRank 5 (some .int) ∈ AL := AL_in (T2 (List.mem_of_getElem? (i := 198) rfl)) rfl
theorem YX4_trainAtRank : YL mX4_trainAtRank 1 := ⟨rfl, w2_198, w1_2, ⟨by decide, by decide, by decide +kernel⟩, by decide⟩
abbrev mX4_allWaits : MI := (yX4_allWaits, cX4_allWaits, 3, (some .int), [])
theorem w6_33 : Cond.code yX4_allWaits cX4_allWaits 3 (some .int) ∈ AL := AL_in (T6 (List.mem_of_getElem? (i := 33) rfl)) rfl
theorem YX4_allWaits : YL mX4_allWaits 0 := ⟨rfl, w6_33, w1_2, ⟨by decide, by decide, by decide +kernel⟩, by decide⟩
abbrev mX4_placeBlock : MI := (yX4_placeBlock, cX4_placeBlock, 4, (some .int), [])
theorem w3_25 : Cond.code yX4_placeBlock cX4_placeBlock 4 (some .int) ∈ AL := AL_in (T3 (List.mem_of_getElem? (i := 25) rfl)) rfl
theorem YX4_placeBlock : YL mX4_placeBlock 2 := ⟨rfl, w3_25, w1_2, ⟨by decide, by decide, by decide +kernel⟩, by decide⟩
abbrev mX4_join : MI := (yX4_join, cX4_join, 3, (some .int), [])
theorem w3_103 : Cond.code yX4_join cX4_join 3 (some .int) ∈ AL := AL_in (T3 (List.mem_of_getElem? (i := 103) rfl)) rfl
theorem YX4_join : YL mX4_join 2 := ⟨rfl, w3_103, w1_2, ⟨by decide, by decide, by decide +kernel⟩, by decide⟩
abbrev mX4_separate : MI := (yX4_separate, cX4_separate, 3, (some .int), [])
theorem w3_129 : Cond.code yX4_separate cX4_separate 3 (some .int) ∈ AL := AL_in (T3 (List.mem_of_getElem? (i := 129) rfl)) rfl
theorem YX4_separate : YL mX4_separate 2 := ⟨rfl, w3_129, w1_2, ⟨by decide, by decide, by decide +kernel⟩, by decide⟩
abbrev mX4_seatCat : MI := (yX4_seatCat, cX4_seatCat, 2, (some .int), [])
theorem w3_141 : Cond.code yX4_seatCat cX4_seatCat 2 (some .int) ∈ AL := AL_in (T3 (List.mem_of_getElem? (i := 141) rfl)) rfl
theorem YX4_seatCat : YL mX4_seatCat 1 := ⟨rfl, w3_141, w1_2, ⟨by decide, by decide, by decide +kernel⟩, by decide⟩
abbrev mX4_liftCat : MI := (yX4_liftCat, cX4_liftCat, 2, (some .int), [])
theorem w3_214 : Cond.code yX4_liftCat cX4_liftCat 2 (some .int) ∈ AL := AL_in (T3 (List.mem_of_getElem? (i := 214) rfl)) rfl
theorem YX4_liftCat : YL mX4_liftCat 1 := ⟨rfl, w3_214, w1_2, ⟨by decide, by decide, by decide +kernel⟩, by decide⟩
abbrev mX4_placeTrain : MI := (yX4_placeTrain, cX4_placeTrain, 4, (some .int), [])
theorem w3_152 : Cond.code yX4_placeTrain cX4_placeTrain 4 (some .int) ∈ AL := AL_in (T3 (List.mem_of_getElem? (i := 152) rfl)) rfl
theorem YX4_placeTrain : YL mX4_placeTrain 2 := ⟨rfl, w3_152, w1_2, ⟨by decide, by decide, by decide +kernel⟩, by decide⟩
abbrev mX4_dropGoal : MI := (yX4_dropGoal, cX4_dropGoal, 3, (some .int), [])
theorem w3_176 : Cond.code yX4_dropGoal cX4_dropGoal 3 (some .int) ∈ AL := AL_in (T3 (List.mem_of_getElem? (i := 176) rfl)) rfl
theorem YX4_dropGoal : YL mX4_dropGoal 1 := ⟨rfl, w3_176, w1_2, ⟨by decide, by decide, by decide +kernel⟩, by decide⟩
abbrev mX4_hold : MI := (yX4_hold, cX4_hold, 3, (some .int), [])
theorem w3_188 : Cond.code yX4_hold cX4_hold 3 (some .int) ∈ AL := AL_in (T3 (List.mem_of_getElem? (i := 188) rfl)) rfl
theorem YX4_hold : YL mX4_hold 2 := ⟨rfl, w3_188, w1_2, ⟨by decide, by decide, by decide +kernel⟩, by decide⟩
abbrev mX4_release : MI := (yX4_release, cX4_release, 3, (some .int), [])
theorem w3_203 : Cond.code yX4_release cX4_release 3 (some .int) ∈ AL := AL_in (T3 (List.mem_of_getElem? (i := 203) rfl)) rfl
theorem YX4_release : YL mX4_release 1 := ⟨rfl, w3_203, w1_2, ⟨by decide, by decide, by decide +kernel⟩, by decide⟩
abbrev mX4_rerail : MI := (yX4_rerail, cX4_rerail, 2, (some .int), [])
theorem w3_225 : Cond.code yX4_rerail cX4_rerail 2 (some .int) ∈ AL := AL_in (T3 (List.mem_of_getElem? (i := 225) rfl)) rfl
theorem YX4_rerail : YL mX4_rerail 1 := ⟨rfl, w3_225, w1_2, ⟨by decide, by decide, by decide +kernel⟩, by decide⟩
abbrev mX4_letsIn : MI := (yX4_letsIn, cX4_letsIn, 4, (some .boolean), [])
theorem w2_228 : Cond.code yX4_letsIn cX4_letsIn 4 (some .boolean) ∈ AL := AL_in (T2 (List.mem_of_getElem? (i := 228) rfl)) rfl
theorem YX4_letsIn : YL mX4_letsIn 2 := ⟨rfl, w2_228, w1_2, ⟨by decide, by decide, by decide +kernel⟩, by decide⟩
abbrev mX4_moveTrain : MI := (yX4_moveTrain, cX4_moveTrain, 3, none, [])
theorem w3_0 : Cond.code yX4_moveTrain cX4_moveTrain 3 none ∈ AL := AL_in (T3 (List.mem_of_getElem? (i := 0) rfl)) rfl
theorem YX4_moveTrain : YL mX4_moveTrain 2 := ⟨rfl, w3_0, w1_2, ⟨by decide, by decide, by decide +kernel⟩, by decide⟩
abbrev mX4_countLinks : MI := (yX4_countLinks, cX4_countLinks, 3, (some .int), [])
theorem w3_112 : Cond.code yX4_countLinks cX4_countLinks 3 (some .int) ∈ AL := AL_in (T3 (List.mem_of_getElem? (i := 112) rfl)) rfl
theorem YX4_countLinks : YL mX4_countLinks 0 := ⟨rfl, w3_112, w1_2, ⟨by decide, by decide, by decide +kernel⟩, by decide⟩
abbrev mX4_countHolds : MI := (yX4_countHolds, cX4_countHolds, 3, (some .int), [])
theorem w3_192 : Cond.code yX4_countHolds cX4_countHolds 3 (some .int) ∈ AL := AL_in (T3 (List.mem_of_getElem? (i := 192) rfl)) rfl
theorem YX4_countHolds : YL mX4_countHolds 0 := ⟨rfl, w3_192, w1_2, ⟨by decide, by decide, by decide +kernel⟩, by decide⟩
abbrev mX5_init : MI := (yX5_init, cX5_init, 1, none, [])
theorem w1_218 : Cond.code yX5_init cX5_init 1 none ∈ AL := AL_in (T1 (List.mem_of_getElem? (i := 218) rfl)) rfl
theorem w1_9 : Cond.initialized RX5 ∈ AL := AL_in (T1 (List.mem_of_getElem? (i := 9) rfl)) rfl
theorem YX5_init : YL mX5_init 0 := ⟨rfl, w1_218, w1_9, ⟨by decide, by decide, by decide +kernel⟩, by decide⟩
abbrev mX6_init : MI := (yX6_init, cX6_init, 1, none, [])
theorem w1_146 : Cond.code yX6_init cX6_init 1 none ∈ AL := AL_in (T1 (List.mem_of_getElem? (i := 146) rfl)) rfl
theorem w1_4 : Cond.initialized RX6 ∈ AL := AL_in (T1 (List.mem_of_getElem? (i := 4) rfl)) rfl
theorem YX6_init : YL mX6_init 0 := ⟨rfl, w1_146, w1_4, ⟨by decide, by decide, by decide +kernel⟩, by decide⟩
abbrev mX6_measureByNearest : MI := (yX6_measureByNearest, cX6_measureByNearest, 8, none, [])
theorem w2_214 : Cond.code yX6_measureByNearest cX6_measureByNearest 8 none ∈ AL := AL_in (T2 (List.mem_of_getElem? (i := 214) rfl)) rfl
theorem YX6_measureByNearest : YL mX6_measureByNearest 2 := ⟨rfl, w2_214, w1_4, ⟨by decide, by decide, by decide +kernel⟩, by decide⟩
abbrev mX6_nearestOpen : MI := (yX6_nearestOpen, cX6_nearestOpen, 6, (some .int), [])
theorem w2_218 : Cond.code yX6_nearestOpen cX6_nearestOpen 6 (some .int) ∈ AL := AL_in (T2 (List.mem_of_getElem? (i := 218) rfl)) rfl
theorem YX6_nearestOpen : YL mX6_nearestOpen 2 := ⟨rfl, w2_218, w1_4, ⟨by decide, by decide, by decide +kernel⟩, by decide⟩
abbrev mX6_measureByRounds : MI := (yX6_measureByRounds, cX6_measureByRounds, 6, none, [])
theorem w6_80 : Cond.code yX6_measureByRounds cX6_measureByRounds 6 none ∈ AL := AL_in (T6 (List.mem_of_getElem? (i := 80) rfl)) rfl
theorem YX6_measureByRounds : YL mX6_measureByRounds 2 := ⟨rfl, w6_80, w1_4, ⟨by decide, by decide, by decide +kernel⟩, by decide⟩
abbrev mX6_shortenFrom : MI := (yX6_shortenFrom, cX6_shortenFrom, 6, (some .boolean), [])
theorem w6_84 : Cond.code yX6_shortenFrom cX6_shortenFrom 6 (some .boolean) ∈ AL := AL_in (T6 (List.mem_of_getElem? (i := 84) rfl)) rfl
theorem YX6_shortenFrom : YL mX6_shortenFrom 2 := ⟨rfl, w6_84, w1_4, ⟨by decide, by decide, by decide +kernel⟩, by decide⟩
abbrev mX6_distancesAgree : MI := (yX6_distancesAgree, cX6_distancesAgree, 4, (some .boolean), [])
theorem w6_126 : Cond.code yX6_distancesAgree cX6_distancesAgree 4 (some .boolean) ∈ AL := AL_in (T6 (List.mem_of_getElem? (i := 126) rfl)) rfl
theorem YX6_distancesAgree : YL mX6_distancesAgree 1 := ⟨rfl, w6_126, w1_4, ⟨by decide, by decide, by decide +kernel⟩, by decide⟩
abbrev mX6_nextFor : MI := (yX6_nextFor, cX6_nextFor, 8, (some .int), [])
theorem w2_210 : Cond.code yX6_nextFor cX6_nextFor 8 (some .int) ∈ AL := AL_in (T2 (List.mem_of_getElem? (i := 210) rfl)) rfl
theorem YX6_nextFor : YL mX6_nextFor 2 := ⟨rfl, w2_210, w1_4, ⟨by decide, by decide, by decide +kernel⟩, by decide⟩
abbrev mX6_cushionNear : MI := (yX6_cushionNear, cX6_cushionNear, 6, (some .int), [])
theorem w6_95 : Cond.code yX6_cushionNear cX6_cushionNear 6 (some .int) ∈ AL := AL_in (T6 (List.mem_of_getElem? (i := 95) rfl)) rfl
theorem YX6_cushionNear : YL mX6_cushionNear 2 := ⟨rfl, w6_95, w1_4, ⟨by decide, by decide, by decide +kernel⟩, by decide⟩
abbrev mX6_partsByWalks : MI := (yX6_partsByWalks, cX6_partsByWalks, 5, (some .int), [])
theorem w6_103 : Cond.code yX6_partsByWalks cX6_partsByWalks 5 (some .int) ∈ AL := AL_in (T6 (List.mem_of_getElem? (i := 103) rfl)) rfl
theorem YX6_partsByWalks : YL mX6_partsByWalks 1 := ⟨rfl, w6_103, w1_4, ⟨by decide, by decide, by decide +kernel⟩, by decide⟩
abbrev mX6_walk : MI := (yX6_walk, cX6_walk, 6, (some .int), [])
theorem w6_106 : Cond.code yX6_walk cX6_walk 6 (some .int) ∈ AL := AL_in (T6 (List.mem_of_getElem? (i := 106) rfl)) rfl
theorem YX6_walk : YL mX6_walk 4 := ⟨rfl, w6_106, w1_4, ⟨by decide, by decide, by decide +kernel⟩, by decide⟩
abbrev mX6_partsByUnions : MI := (yX6_partsByUnions, cX6_partsByUnions, 5, (some .int), [])
theorem w6_114 : Cond.code yX6_partsByUnions cX6_partsByUnions 5 (some .int) ∈ AL := AL_in (T6 (List.mem_of_getElem? (i := 114) rfl)) rfl
theorem YX6_partsByUnions : YL mX6_partsByUnions 1 := ⟨rfl, w6_114, w1_4, ⟨by decide, by decide, by decide +kernel⟩, by decide⟩
abbrev mX6_unite : MI := (yX6_unite, cX6_unite, 5, none, [])
theorem w6_118 : Cond.code yX6_unite cX6_unite 5 none ∈ AL := AL_in (T6 (List.mem_of_getElem? (i := 118) rfl)) rfl
theorem YX6_unite : YL mX6_unite 3 := ⟨rfl, w6_118, w1_4, ⟨by decide, by decide, by decide +kernel⟩, by decide⟩
abbrev mX7_init : MI := (yX7_init, cX7_init, 1, none, [])
theorem w1_165 : Cond.code yX7_init cX7_init 1 none ∈ AL := AL_in (T1 (List.mem_of_getElem? (i := 165) rfl)) rfl
theorem w1_5 : Cond.initialized RX7 ∈ AL := AL_in (T1 (List.mem_of_getElem? (i := 5) rfl)) rfl
theorem YX7_init : YL mX7_init 0 := ⟨rfl, w1_165, w1_5, ⟨by decide, by decide, by decide +kernel⟩, by decide⟩
abbrev mX7_aim : MI := (yX7_aim, cX7_aim, 5, (some .int), [])
theorem w3_163 : Cond.code yX7_aim cX7_aim 5 (some .int) ∈ AL := AL_in (T3 (List.mem_of_getElem? (i := 163) rfl)) rfl
theorem YX7_aim : YL mX7_aim 3 := ⟨rfl, w3_163, w1_5, ⟨by decide, by decide, by decide +kernel⟩, by decide⟩
abbrev mX7_letPass : MI := (yX7_letPass, cX7_letPass, 6, (some .int), [])
theorem w2_194 : Cond.code yX7_letPass cX7_letPass 6 (some .int) ∈ AL := AL_in (T2 (List.mem_of_getElem? (i := 194) rfl)) rfl
theorem YX7_letPass : YL mX7_letPass 2 := ⟨rfl, w2_194, w1_5, ⟨by decide, by decide, by decide +kernel⟩, by decide⟩
abbrev mX7_consider : MI := (yX7_consider, cX7_consider, 4, none, [])
theorem w2_202 : Cond.code yX7_consider cX7_consider 4 none ∈ AL := AL_in (T2 (List.mem_of_getElem? (i := 202) rfl)) rfl
theorem YX7_consider : YL mX7_consider 2 := ⟨rfl, w2_202, w1_5, ⟨by decide, by decide, by decide +kernel⟩, by decide⟩
abbrev mX7_ticksToGoal : MI := (yX7_ticksToGoal, cX7_ticksToGoal, 4, (some .int), [])
theorem w2_190 : Cond.code yX7_ticksToGoal cX7_ticksToGoal 4 (some .int) ∈ AL := AL_in (T2 (List.mem_of_getElem? (i := 190) rfl)) rfl
theorem YX7_ticksToGoal : YL mX7_ticksToGoal 2 := ⟨rfl, w2_190, w1_5, ⟨by decide, by decide, by decide +kernel⟩, by decide⟩
abbrev mX7_blockerOf : MI := (yX7_blockerOf, cX7_blockerOf, 4, (some .int), [])
theorem w5_228 : Cond.code yX7_blockerOf cX7_blockerOf 4 (some .int) ∈ AL := AL_in (T5 (List.mem_of_getElem? (i := 228) rfl)) rfl
theorem YX7_blockerOf : YL mX7_blockerOf 2 := ⟨rfl, w5_228, w1_5, ⟨by decide, by decide, by decide +kernel⟩, by decide⟩
abbrev mX7_stuckByFollowing : MI := (yX7_stuckByFollowing, cX7_stuckByFollowing, 4, (some .int), [])
theorem w6_51 : Cond.code yX7_stuckByFollowing cX7_stuckByFollowing 4 (some .int) ∈ AL := AL_in (T6 (List.mem_of_getElem? (i := 51) rfl)) rfl
theorem YX7_stuckByFollowing : YL mX7_stuckByFollowing 1 := ⟨rfl, w6_51, w1_5, ⟨by decide, by decide, by decide +kernel⟩, by decide⟩
abbrev mX7_leadsBack : MI := (yX7_leadsBack, cX7_leadsBack, 5, (some .boolean), [])
theorem w6_56 : Cond.code yX7_leadsBack cX7_leadsBack 5 (some .boolean) ∈ AL := AL_in (T6 (List.mem_of_getElem? (i := 56) rfl)) rfl
theorem YX7_leadsBack : YL mX7_leadsBack 2 := ⟨rfl, w6_56, w1_5, ⟨by decide, by decide, by decide +kernel⟩, by decide⟩
abbrev mX7_stuckByTable : MI := (yX7_stuckByTable, cX7_stuckByTable, 4, (some .int), [])
theorem w6_64 : Cond.code yX7_stuckByTable cX7_stuckByTable 4 (some .int) ∈ AL := AL_in (T6 (List.mem_of_getElem? (i := 64) rfl)) rfl
theorem YX7_stuckByTable : YL mX7_stuckByTable 1 := ⟨rfl, w6_64, w1_5, ⟨by decide, by decide, by decide +kernel⟩, by decide⟩
abbrev mX8_init : MI := (yX8_init, cX8_init, 1, none, [])
theorem w1_37 : Cond.code yX8_init cX8_init 1 none ∈ AL := AL_in (T1 (List.mem_of_getElem? (i := 37) rfl)) rfl
theorem w1_1 : Cond.initialized RX8 ∈ AL := AL_in (T1 (List.mem_of_getElem? (i := 1) rfl)) rfl
theorem YX8_init : YL mX8_init 0 := ⟨rfl, w1_37, w1_1, ⟨by decide, by decide, by decide +kernel⟩, by decide⟩
abbrev mX8_addBlock : MI := (yX8_addBlock, cX8_addBlock, 2, (some .int), [])
theorem w3_92 : Cond.code yX8_addBlock cX8_addBlock 2 (some .int) ∈ AL := AL_in (T3 (List.mem_of_getElem? (i := 92) rfl)) rfl
theorem YX8_addBlock : YL mX8_addBlock 1 := ⟨rfl, w3_92, w1_1, ⟨by decide, by decide, by decide +kernel⟩, by decide⟩
abbrev mX8_addCushion : MI := (yX8_addCushion, cX8_addCushion, 2, (some .int), [])
theorem w3_16 : Cond.code yX8_addCushion cX8_addCushion 2 (some .int) ∈ AL := AL_in (T3 (List.mem_of_getElem? (i := 16) rfl)) rfl
theorem YX8_addCushion : YL mX8_addCushion 1 := ⟨rfl, w3_16, w1_1, ⟨by decide, by decide, by decide +kernel⟩, by decide⟩
abbrev mX8_link : MI := (yX8_link, cX8_link, 3, (some .int), [])
theorem w3_99 : Cond.code yX8_link cX8_link 3 (some .int) ∈ AL := AL_in (T3 (List.mem_of_getElem? (i := 99) rfl)) rfl
theorem YX8_link : YL mX8_link 2 := ⟨rfl, w3_99, w1_1, ⟨by decide, by decide, by decide +kernel⟩, by decide⟩
abbrev mX8_unlink : MI := (yX8_unlink, cX8_unlink, 3, (some .int), [])
theorem w3_125 : Cond.code yX8_unlink cX8_unlink 3 (some .int) ∈ AL := AL_in (T3 (List.mem_of_getElem? (i := 125) rfl)) rfl
theorem YX8_unlink : YL mX8_unlink 2 := ⟨rfl, w3_125, w1_1, ⟨by decide, by decide, by decide +kernel⟩, by decide⟩
abbrev mX8_putCat : MI := (yX8_putCat, cX8_putCat, 2, (some .int), [])
theorem w3_137 : Cond.code yX8_putCat cX8_putCat 2 (some .int) ∈ AL := AL_in (T3 (List.mem_of_getElem? (i := 137) rfl)) rfl
theorem YX8_putCat : YL mX8_putCat 1 := ⟨rfl, w3_137, w1_1, ⟨by decide, by decide, by decide +kernel⟩, by decide⟩
abbrev mX8_removeCat : MI := (yX8_removeCat, cX8_removeCat, 2, (some .int), [])
theorem w3_210 : Cond.code yX8_removeCat cX8_removeCat 2 (some .int) ∈ AL := AL_in (T3 (List.mem_of_getElem? (i := 210) rfl)) rfl
theorem YX8_removeCat : YL mX8_removeCat 1 := ⟨rfl, w3_210, w1_1, ⟨by decide, by decide, by decide +kernel⟩, by decide⟩
abbrev mX8_blockCount : MI := (yX8_blockCount, cX8_blockCount, 1, (some .int), [])
theorem w3_7 : Cond.code yX8_blockCount cX8_blockCount 1 (some .int) ∈ AL := AL_in (T3 (List.mem_of_getElem? (i := 7) rfl)) rfl
theorem YX8_blockCount : YL mX8_blockCount 0 := ⟨rfl, w3_7, w1_1, ⟨by decide, by decide, by decide +kernel⟩, by decide⟩
abbrev mX8_length : MI := (yX8_length, cX8_length, 2, (some .int), [])
theorem w5_111 : Cond.code yX8_length cX8_length 2 (some .int) ∈ AL := AL_in (T5 (List.mem_of_getElem? (i := 111) rfl)) rfl
theorem YX8_length : YL mX8_length 1 := ⟨rfl, w5_111, w1_1, ⟨by decide, by decide, by decide +kernel⟩, by decide⟩
abbrev mX8_isCushion : MI := (yX8_isCushion, cX8_isCushion, 2, (some .boolean), [])
theorem w5_124 : Cond.code yX8_isCushion cX8_isCushion 2 (some .boolean) ∈ AL := AL_in (T5 (List.mem_of_getElem? (i := 124) rfl)) rfl
theorem YX8_isCushion : YL mX8_isCushion 1 := ⟨rfl, w5_124, w1_1, ⟨by decide, by decide, by decide +kernel⟩, by decide⟩
abbrev mX8_hasCat : MI := (yX8_hasCat, cX8_hasCat, 2, (some .boolean), [])
theorem w5_206 : Cond.code yX8_hasCat cX8_hasCat 2 (some .boolean) ∈ AL := AL_in (T5 (List.mem_of_getElem? (i := 206) rfl)) rfl
theorem YX8_hasCat : YL mX8_hasCat 1 := ⟨rfl, w5_206, w1_1, ⟨by decide, by decide, by decide +kernel⟩, by decide⟩
abbrev mX8_areLinked : MI := (yX8_areLinked, cX8_areLinked, 3, (some .boolean), [])
theorem w5_159 : Cond.code yX8_areLinked cX8_areLinked 3 (some .boolean) ∈ AL := AL_in (T5 (List.mem_of_getElem? (i := 159) rfl)) rfl
theorem YX8_areLinked : YL mX8_areLinked 2 := ⟨rfl, w5_159, w1_1, ⟨by decide, by decide, by decide +kernel⟩, by decide⟩
abbrev mX8_trainIn : MI := (yX8_trainIn, cX8_trainIn, 2, (some .int), [])
theorem w5_151 : Cond.code yX8_trainIn cX8_trainIn 2 (some .int) ∈ AL := AL_in (T5 (List.mem_of_getElem? (i := 151) rfl)) rfl
theorem YX8_trainIn : YL mX8_trainIn 1 := ⟨rfl, w5_151, w1_1, ⟨by decide, by decide, by decide +kernel⟩, by decide⟩
abbrev mX8_reservedBy : MI := (yX8_reservedBy, cX8_reservedBy, 2, (some .int), [])
theorem w5_143 : Cond.code yX8_reservedBy cX8_reservedBy 2 (some .int) ∈ AL := AL_in (T5 (List.mem_of_getElem? (i := 143) rfl)) rfl
theorem YX8_reservedBy : YL mX8_reservedBy 1 := ⟨rfl, w5_143, w1_1, ⟨by decide, by decide, by decide +kernel⟩, by decide⟩
abbrev mX8_signal : MI := (yX8_signal, cX8_signal, 2, (some .char), [])
theorem w5_132 : Cond.code yX8_signal cX8_signal 2 (some .char) ∈ AL := AL_in (T5 (List.mem_of_getElem? (i := 132) rfl)) rfl
theorem YX8_signal : YL mX8_signal 1 := ⟨rfl, w5_132, w1_1, ⟨by decide, by decide, by decide +kernel⟩, by decide⟩
abbrev mX8_distance : MI := (yX8_distance, cX8_distance, 3, (some .int), [])
theorem w5_236 : Cond.code yX8_distance cX8_distance 3 (some .int) ∈ AL := AL_in (T5 (List.mem_of_getElem? (i := 236) rfl)) rfl
theorem YX8_distance : YL mX8_distance 2 := ⟨rfl, w5_236, w1_1, ⟨by decide, by decide, by decide +kernel⟩, by decide⟩
abbrev mX8_distanceByRounds : MI := (yX8_distanceByRounds, cX8_distanceByRounds, 3, (some .int), [])
theorem w6_76 : Cond.code yX8_distanceByRounds cX8_distanceByRounds 3 (some .int) ∈ AL := AL_in (T6 (List.mem_of_getElem? (i := 76) rfl)) rfl
theorem YX8_distanceByRounds : YL mX8_distanceByRounds 2 := ⟨rfl, w6_76, w1_1, ⟨by decide, by decide, by decide +kernel⟩, by decide⟩
abbrev mX8_nextBlock : MI := (yX8_nextBlock, cX8_nextBlock, 2, (some .int), [])
theorem w5_216 : Cond.code yX8_nextBlock cX8_nextBlock 2 (some .int) ∈ AL := AL_in (T5 (List.mem_of_getElem? (i := 216) rfl)) rfl
theorem YX8_nextBlock : YL mX8_nextBlock 1 := ⟨rfl, w5_216, w1_1, ⟨by decide, by decide, by decide +kernel⟩, by decide⟩
abbrev mX8_partCount : MI := (yX8_partCount, cX8_partCount, 1, (some .int), [])
theorem w6_99 : Cond.code yX8_partCount cX8_partCount 1 (some .int) ∈ AL := AL_in (T6 (List.mem_of_getElem? (i := 99) rfl)) rfl
theorem YX8_partCount : YL mX8_partCount 0 := ⟨rfl, w6_99, w1_1, ⟨by decide, by decide, by decide +kernel⟩, by decide⟩
abbrev mX8_partCountByUnions : MI := (yX8_partCountByUnions, cX8_partCountByUnions, 1, (some .int), [])
theorem w6_110 : Cond.code yX8_partCountByUnions cX8_partCountByUnions 1 (some .int) ∈ AL := AL_in (T6 (List.mem_of_getElem? (i := 110) rfl)) rfl
theorem YX8_partCountByUnions : YL mX8_partCountByUnions 0 := ⟨rfl, w6_110, w1_1, ⟨by decide, by decide, by decide +kernel⟩, by decide⟩
abbrev mX8_nearestCushion : MI := (yX8_nearestCushion, cX8_nearestCushion, 2, (some .int), [])
theorem w6_91 : Cond.code yX8_nearestCushion cX8_nearestCushion 2 (some .int) ∈ AL := AL_in (T6 (List.mem_of_getElem? (i := 91) rfl)) rfl
theorem YX8_nearestCushion : YL mX8_nearestCushion 1 := ⟨rfl, w6_91, w1_1, ⟨by decide, by decide, by decide +kernel⟩, by decide⟩
abbrev mX8_addTrain : MI := (yX8_addTrain, cX8_addTrain, 3, (some .int), [])
theorem w3_148 : Cond.code yX8_addTrain cX8_addTrain 3 (some .int) ∈ AL := AL_in (T3 (List.mem_of_getElem? (i := 148) rfl)) rfl
theorem YX8_addTrain : YL mX8_addTrain 2 := ⟨rfl, w3_148, w1_1, ⟨by decide, by decide, by decide +kernel⟩, by decide⟩
abbrev mX8_setGoal : MI := (yX8_setGoal, cX8_setGoal, 3, (some .int), [])
theorem w3_159 : Cond.code yX8_setGoal cX8_setGoal 3 (some .int) ∈ AL := AL_in (T3 (List.mem_of_getElem? (i := 159) rfl)) rfl
theorem YX8_setGoal : YL mX8_setGoal 2 := ⟨rfl, w3_159, w1_1, ⟨by decide, by decide, by decide +kernel⟩, by decide⟩
abbrev mX8_clearGoal : MI := (yX8_clearGoal, cX8_clearGoal, 2, (some .int), [])
theorem w3_172 : Cond.code yX8_clearGoal cX8_clearGoal 2 (some .int) ∈ AL := AL_in (T3 (List.mem_of_getElem? (i := 172) rfl)) rfl
theorem YX8_clearGoal : YL mX8_clearGoal 1 := ⟨rfl, w3_172, w1_1, ⟨by decide, by decide, by decide +kernel⟩, by decide⟩
abbrev mX8_reserve : MI := (yX8_reserve, cX8_reserve, 3, (some .int), [])
theorem w3_184 : Cond.code yX8_reserve cX8_reserve 3 (some .int) ∈ AL := AL_in (T3 (List.mem_of_getElem? (i := 184) rfl)) rfl
theorem YX8_reserve : YL mX8_reserve 2 := ⟨rfl, w3_184, w1_1, ⟨by decide, by decide, by decide +kernel⟩, by decide⟩
abbrev mX8_cancelReservation : MI := (yX8_cancelReservation, cX8_cancelReservation, 2, (some .int), [])
theorem w3_199 : Cond.code yX8_cancelReservation cX8_cancelReservation 2 (some .int) ∈ AL := AL_in (T3 (List.mem_of_getElem? (i := 199) rfl)) rfl
theorem YX8_cancelReservation : YL mX8_cancelReservation 1 := ⟨rfl, w3_199, w1_1, ⟨by decide, by decide, by decide +kernel⟩, by decide⟩
abbrev mX8_rescue : MI := (yX8_rescue, cX8_rescue, 2, (some .int), [])
theorem w3_221 : Cond.code yX8_rescue cX8_rescue 2 (some .int) ∈ AL := AL_in (T3 (List.mem_of_getElem? (i := 221) rfl)) rfl
theorem YX8_rescue : YL mX8_rescue 1 := ⟨rfl, w3_221, w1_1, ⟨by decide, by decide, by decide +kernel⟩, by decide⟩
abbrev mX8_trainCount : MI := (yX8_trainCount, cX8_trainCount, 1, (some .int), [])
theorem w2_24 : Cond.code yX8_trainCount cX8_trainCount 1 (some .int) ∈ AL := AL_in (T2 (List.mem_of_getElem? (i := 24) rfl)) rfl
theorem YX8_trainCount : YL mX8_trainCount 0 := ⟨rfl, w2_24, w1_1, ⟨by decide, by decide, by decide +kernel⟩, by decide⟩
abbrev mX8_blockOf : MI := (yX8_blockOf, cX8_blockOf, 2, (some .int), [])
theorem w5_167 : Cond.code yX8_blockOf cX8_blockOf 2 (some .int) ∈ AL := AL_in (T5 (List.mem_of_getElem? (i := 167) rfl)) rfl
theorem YX8_blockOf : YL mX8_blockOf 1 := ⟨rfl, w5_167, w1_1, ⟨by decide, by decide, by decide +kernel⟩, by decide⟩
abbrev mX8_priority : MI := (yX8_priority, cX8_priority, 2, (some .int), [])
theorem w5_175 : Cond.code yX8_priority cX8_priority 2 (some .int) ∈ AL := AL_in (T5 (List.mem_of_getElem? (i := 175) rfl)) rfl
theorem YX8_priority : YL mX8_priority 1 := ⟨rfl, w5_175, w1_1, ⟨by decide, by decide, by decide +kernel⟩, by decide⟩
abbrev mX8_remainingTicks : MI := (yX8_remainingTicks, cX8_remainingTicks, 2, (some .int), [])
theorem w5_182 : Cond.code yX8_remainingTicks cX8_remainingTicks 2 (some .int) ∈ AL := AL_in (T5 (List.mem_of_getElem? (i := 182) rfl)) rfl
theorem YX8_remainingTicks : YL mX8_remainingTicks 1 := ⟨rfl, w5_182, w1_1, ⟨by decide, by decide, by decide +kernel⟩, by decide⟩
abbrev mX8_goal : MI := (yX8_goal, cX8_goal, 2, (some .int), [])
theorem w2_131 : Cond.code yX8_goal cX8_goal 2 (some .int) ∈ AL := AL_in (T2 (List.mem_of_getElem? (i := 131) rfl)) rfl
theorem YX8_goal : YL mX8_goal 1 := ⟨rfl, w2_131, w1_1, ⟨by decide, by decide, by decide +kernel⟩, by decide⟩
abbrev mX8_isDerailed : MI := (yX8_isDerailed, cX8_isDerailed, 2, (some .boolean), [])
theorem w5_189 : Cond.code yX8_isDerailed cX8_isDerailed 2 (some .boolean) ∈ AL := AL_in (T5 (List.mem_of_getElem? (i := 189) rfl)) rfl
theorem YX8_isDerailed : YL mX8_isDerailed 1 := ⟨rfl, w5_189, w1_1, ⟨by decide, by decide, by decide +kernel⟩, by decide⟩
abbrev mX8_waits : MI := (yX8_waits, cX8_waits, 2, (some .int), [])
theorem w5_196 : Cond.code yX8_waits cX8_waits 2 (some .int) ∈ AL := AL_in (T5 (List.mem_of_getElem? (i := 196) rfl)) rfl
theorem YX8_waits : YL mX8_waits 1 := ⟨rfl, w5_196, w1_1, ⟨by decide, by decide, by decide +kernel⟩, by decide⟩
abbrev mX8_trainByPriority : MI := (yX8_trainByPriority, cX8_trainByPriority, 2, (some .int), [])
theorem w6_4 : Cond.code yX8_trainByPriority cX8_trainByPriority 2 (some .int) ∈ AL := AL_in (T6 (List.mem_of_getElem? (i := 4) rfl)) rfl
theorem YX8_trainByPriority : YL mX8_trainByPriority 1 := ⟨rfl, w6_4, w1_1, ⟨by decide, by decide, by decide +kernel⟩, by decide⟩
abbrev mX8_blockedBy : MI := (yX8_blockedBy, cX8_blockedBy, 2, (some .int), [])
theorem w5_224 : Cond.code yX8_blockedBy cX8_blockedBy 2 (some .int) ∈ AL := AL_in (T5 (List.mem_of_getElem? (i := 224) rfl)) rfl
theorem YX8_blockedBy : YL mX8_blockedBy 1 := ⟨rfl, w5_224, w1_1, ⟨by decide, by decide, by decide +kernel⟩, by decide⟩
abbrev mX8_deadlocked : MI := (yX8_deadlocked, cX8_deadlocked, 1, (some .int), [])
theorem w6_47 : Cond.code yX8_deadlocked cX8_deadlocked 1 (some .int) ∈ AL := AL_in (T6 (List.mem_of_getElem? (i := 47) rfl)) rfl
theorem YX8_deadlocked : YL mX8_deadlocked 0 := ⟨rfl, w6_47, w1_1, ⟨by decide, by decide, by decide +kernel⟩, by decide⟩
abbrev mX8_deadlockedByTable : MI := (yX8_deadlockedByTable, cX8_deadlockedByTable, 1, (some .int), [])
theorem w6_60 : Cond.code yX8_deadlockedByTable cX8_deadlockedByTable 1 (some .int) ∈ AL := AL_in (T6 (List.mem_of_getElem? (i := 60) rfl)) rfl
theorem YX8_deadlockedByTable : YL mX8_deadlockedByTable 0 := ⟨rfl, w6_60, w1_1, ⟨by decide, by decide, by decide +kernel⟩, by decide⟩
abbrev mX8_passTicks : MI := (yX8_passTicks, cX8_passTicks, 2, (some .int), [])
theorem w3_232 : Cond.code yX8_passTicks cX8_passTicks 2 (some .int) ∈ AL := AL_in (T3 (List.mem_of_getElem? (i := 232) rfl)) rfl
theorem YX8_passTicks : YL mX8_passTicks 1 := ⟨rfl, w3_232, w1_1, ⟨by decide, by decide, by decide +kernel⟩, by decide⟩
abbrev mX8_ticks : MI := (yX8_ticks, cX8_ticks, 1, (some .int), [])
theorem w2_28 : Cond.code yX8_ticks cX8_ticks 1 (some .int) ∈ AL := AL_in (T2 (List.mem_of_getElem? (i := 28) rfl)) rfl
theorem YX8_ticks : YL mX8_ticks 0 := ⟨rfl, w2_28, w1_1, ⟨by decide, by decide, by decide +kernel⟩, by decide⟩
abbrev mX8_arrivals : MI := (yX8_arrivals, cX8_arrivals, 1, (some .int), [])
theorem w2_32 : Cond.code yX8_arrivals cX8_arrivals 1 (some .int) ∈ AL := AL_in (T2 (List.mem_of_getElem? (i := 32) rfl)) rfl
theorem YX8_arrivals : YL mX8_arrivals 0 := ⟨rfl, w2_32, w1_1, ⟨by decide, by decide, by decide +kernel⟩, by decide⟩
abbrev mX8_ticksUntilArrival : MI := (yX8_ticksUntilArrival, cX8_ticksUntilArrival, 2, (some .int), [])
theorem w2_178 : Cond.code yX8_ticksUntilArrival cX8_ticksUntilArrival 2 (some .int) ∈ AL := AL_in (T2 (List.mem_of_getElem? (i := 178) rfl)) rfl
theorem YX8_ticksUntilArrival : YL mX8_ticksUntilArrival 1 := ⟨rfl, w2_178, w1_1, ⟨by decide, by decide, by decide +kernel⟩, by decide⟩
abbrev mX8_meanWaits : MI := (yX8_meanWaits, cX8_meanWaits, 1, (some .double), [])
theorem w6_26 : Cond.code yX8_meanWaits cX8_meanWaits 1 (some .double) ∈ AL := AL_in (T6 (List.mem_of_getElem? (i := 26) rfl)) rfl
theorem YX8_meanWaits : YL mX8_meanWaits 0 := ⟨rfl, w6_26, w1_1, ⟨by decide, by decide, by decide +kernel⟩, by decide⟩
abbrev mX8_occupiedFraction : MI := (yX8_occupiedFraction, cX8_occupiedFraction, 1, (some .float), [])
theorem w6_41 : Cond.code yX8_occupiedFraction cX8_occupiedFraction 1 (some .float) ∈ AL := AL_in (T6 (List.mem_of_getElem? (i := 41) rfl)) rfl
theorem YX8_occupiedFraction : YL mX8_occupiedFraction 0 := ⟨rfl, w6_41, w1_1, ⟨by decide, by decide, by decide +kernel⟩, by decide⟩
abbrev mX8_isConsistent : MI := (yX8_isConsistent, cX8_isConsistent, 1, (some .boolean), [])
theorem w6_122 : Cond.code yX8_isConsistent cX8_isConsistent 1 (some .boolean) ∈ AL := AL_in (T6 (List.mem_of_getElem? (i := 122) rfl)) rfl
theorem YX8_isConsistent : YL mX8_isConsistent 0 := ⟨rfl, w6_122, w1_1, ⟨by decide, by decide, by decide +kernel⟩, by decide⟩
abbrev mX8_feed : MI := (yX8_feed, cX8_feed, 2, (some .int), [])
theorem w5_30 : Cond.code yX8_feed cX8_feed 2 (some .int) ∈ AL := AL_in (T5 (List.mem_of_getElem? (i := 30) rfl)) rfl
theorem YX8_feed : YL mX8_feed 1 := ⟨rfl, w5_30, w1_1, ⟨by decide, by decide, by decide +kernel⟩, by decide⟩
abbrev mX8_execute : MI := (yX8_execute, cX8_execute, 4, (some .int), [])
theorem w5_42 : Cond.code yX8_execute cX8_execute 4 (some .int) ∈ AL := AL_in (T5 (List.mem_of_getElem? (i := 42) rfl)) rfl
theorem YX8_execute : YL mX8_execute 0 := ⟨rfl, w5_42, w1_1, ⟨by decide, by decide, by decide +kernel⟩, by decide⟩
abbrev mX8_undo : MI := (yX8_undo, cX8_undo, 1, (some .int), [])
theorem w6_142 : Cond.code yX8_undo cX8_undo 1 (some .int) ∈ AL := AL_in (T6 (List.mem_of_getElem? (i := 142) rfl)) rfl
theorem YX8_undo : YL mX8_undo 0 := ⟨rfl, w6_142, w1_1, ⟨by decide, by decide, by decide +kernel⟩, by decide⟩
abbrev mX8_undoCount : MI := (yX8_undoCount, cX8_undoCount, 1, (some .int), [])
theorem w2_36 : Cond.code yX8_undoCount cX8_undoCount 1 (some .int) ∈ AL := AL_in (T2 (List.mem_of_getElem? (i := 36) rfl)) rfl
theorem YX8_undoCount : YL mX8_undoCount 0 := ⟨rfl, w2_36, w1_1, ⟨by decide, by decide, by decide +kernel⟩, by decide⟩
abbrev mX8_save : MI := (yX8_save, cX8_save, 1, (some .int), [])
theorem w6_134 : Cond.code yX8_save cX8_save 1 (some .int) ∈ AL := AL_in (T6 (List.mem_of_getElem? (i := 134) rfl)) rfl
theorem YX8_save : YL mX8_save 0 := ⟨rfl, w6_134, w1_1, ⟨by decide, by decide, by decide +kernel⟩, by decide⟩
abbrev mX8_restore : MI := (yX8_restore, cX8_restore, 1, (some .int), [])
theorem w6_154 : Cond.code yX8_restore cX8_restore 1 (some .int) ∈ AL := AL_in (T6 (List.mem_of_getElem? (i := 154) rfl)) rfl
theorem YX8_restore : YL mX8_restore 0 := ⟨rfl, w6_154, w1_1, ⟨by decide, by decide, by decide +kernel⟩, by decide⟩
abbrev mX8_needBlock : MI := (yX8_needBlock, cX8_needBlock, 2, none, [])
theorem w5_115 : Cond.code yX8_needBlock cX8_needBlock 2 none ∈ AL := AL_in (T5 (List.mem_of_getElem? (i := 115) rfl)) rfl
theorem YX8_needBlock : YL mX8_needBlock 1 := ⟨rfl, w5_115, w1_1, ⟨by decide, by decide, by decide +kernel⟩, by decide⟩
abbrev mX8_needTrain : MI := (yX8_needTrain, cX8_needTrain, 2, none, [])
theorem w2_135 : Cond.code yX8_needTrain cX8_needTrain 2 none ∈ AL := AL_in (T2 (List.mem_of_getElem? (i := 135) rfl)) rfl
theorem YX8_needTrain : YL mX8_needTrain 1 := ⟨rfl, w2_135, w1_1, ⟨by decide, by decide, by decide +kernel⟩, by decide⟩
abbrev mX8_has : MI := (yX8_has, cX8_has, 2, (some .boolean), [])
theorem w2_206 : Cond.code yX8_has cX8_has 2 (some .boolean) ∈ AL := AL_in (T2 (List.mem_of_getElem? (i := 206) rfl)) rfl
theorem YX8_has : YL mX8_has 2 := ⟨rfl, w2_206, w1_1, ⟨by decide, by decide, by decide +kernel⟩, by decide⟩
abbrev mX8_found : MI := (yX8_found, cX8_found, 1, (some .int), [])
theorem w2_155 : Cond.code yX8_found cX8_found 1 (some .int) ∈ AL := AL_in (T2 (List.mem_of_getElem? (i := 155) rfl)) rfl
theorem YX8_found : YL mX8_found 1 := ⟨rfl, w2_155, w1_1, ⟨by decide, by decide, by decide +kernel⟩, by decide⟩
abbrev mX8_changed : MI := (yX8_changed, cX8_changed, 2, (some .int), [])
theorem w3_29 : Cond.code yX8_changed cX8_changed 2 (some .int) ∈ AL := AL_in (T3 (List.mem_of_getElem? (i := 29) rfl)) rfl
theorem YX8_changed : YL mX8_changed 1 := ⟨rfl, w3_29, w1_1, ⟨by decide, by decide, by decide +kernel⟩, by decide⟩
abbrev mX8_perform : MI := (yX8_perform, cX8_perform, 4, (some .int), [])
theorem w5_86 : Cond.code yX8_perform cX8_perform 4 (some .int) ∈ AL := AL_in (T5 (List.mem_of_getElem? (i := 86) rfl)) rfl
theorem YX8_perform : YL mX8_perform 3 := ⟨rfl, w5_86, w1_1, ⟨by decide, by decide, by decide +kernel⟩, by decide⟩
abbrev mJ5_init_d00df : MI := (yJ5_init_d00df, cJ5_init_d00df, 2, none, [])
theorem w4_1 : Cond.code yJ5_init_d00df cJ5_init_d00df 2 none ∈ AL := AL_in (T4 (List.mem_of_getElem? (i := 1) rfl)) rfl
theorem w1_24 : Cond.initialized RJ5 ∈ AL := AL_in (T1 (List.mem_of_getElem? (i := 24) rfl)) rfl
theorem YJ5_init_d00df : YL mJ5_init_d00df 1 := ⟨rfl, w4_1, w1_24, ⟨by decide, by decide, by decide +kernel⟩, by decide⟩
abbrev mJ5_length_8abf5 : MI := (yJ5_length_8abf5, cJ5_length_8abf5, 1, (some .int), [])
theorem w4_193 : Cond.code yJ5_length_8abf5 cJ5_length_8abf5 1 (some .int) ∈ AL := AL_in (T4 (List.mem_of_getElem? (i := 193) rfl)) rfl
theorem YJ5_length_8abf5 : YL mJ5_length_8abf5 0 := ⟨rfl, w4_193, w1_24, ⟨by decide, by decide, by decide +kernel⟩, by decide⟩
abbrev mJ5_ensureCapacityInternal_d00df : MI := (yJ5_ensureCapacityInternal_d00df, cJ5_ensureCapacityInternal_d00df, 3, none, [])
theorem w4_40 : Cond.code yJ5_ensureCapacityInternal_d00df cJ5_ensureCapacityInternal_d00df 3 none ∈ AL := AL_in (T4 (List.mem_of_getElem? (i := 40) rfl)) rfl
theorem YJ5_ensureCapacityInternal_d00df : YL mJ5_ensureCapacityInternal_d00df 1 := ⟨rfl, w4_40, w1_24, ⟨by decide, by decide, by decide +kernel⟩, by decide⟩
abbrev mJ5_newCapacity_0f7a4 : MI := (yJ5_newCapacity_0f7a4, cJ5_newCapacity_0f7a4, 6, (some .int), [])
theorem w4_44 : Cond.code yJ5_newCapacity_0f7a4 cJ5_newCapacity_0f7a4 6 (some .int) ∈ AL := AL_in (T4 (List.mem_of_getElem? (i := 44) rfl)) rfl
theorem YJ5_newCapacity_0f7a4 : YL mJ5_newCapacity_0f7a4 1 := ⟨rfl, w4_44, w1_24, ⟨by decide, by decide, by decide +kernel⟩, by decide⟩
abbrev mJ5_inflate_da8c8 : MI := (yJ5_inflate_da8c8, cJ5_inflate_da8c8, 2, none, [])
theorem w4_120 : Cond.code yJ5_inflate_da8c8 cJ5_inflate_da8c8 2 none ∈ AL := AL_in (T4 (List.mem_of_getElem? (i := 120) rfl)) rfl
theorem YJ5_inflate_da8c8 : YL mJ5_inflate_da8c8 0 := ⟨rfl, w4_120, w1_24, ⟨by decide, by decide, by decide +kernel⟩, by decide⟩
abbrev mJ5_isLatin1_aae02 : MI := (yJ5_isLatin1_aae02, cJ5_isLatin1_aae02, 1, (some .boolean), [])
theorem w4_72 : Cond.code yJ5_isLatin1_aae02 cJ5_isLatin1_aae02 1 (some .boolean) ∈ AL := AL_in (T4 (List.mem_of_getElem? (i := 72) rfl)) rfl
theorem YJ5_isLatin1_aae02 : YL mJ5_isLatin1_aae02 0 := ⟨rfl, w4_72, w1_24, ⟨by decide, by decide, by decide +kernel⟩, by decide⟩
abbrev mJ5_inflateIfNeededFor_a7421 : MI := (yJ5_inflateIfNeededFor_a7421, cJ5_inflateIfNeededFor_a7421, 2, none, [])
theorem w4_115 : Cond.code yJ5_inflateIfNeededFor_a7421 cJ5_inflateIfNeededFor_a7421 2 none ∈ AL := AL_in (T4 (List.mem_of_getElem? (i := 115) rfl)) rfl
theorem YJ5_inflateIfNeededFor_a7421 : YL mJ5_inflateIfNeededFor_a7421 1 := ⟨rfl, w4_115, w1_24, ⟨by decide, by decide, by decide +kernel⟩, by decide⟩
abbrev mJ5_putStringAt_47b60 : MI := (yJ5_putStringAt_47b60, cJ5_putStringAt_47b60, 3, none, [])
theorem w4_111 : Cond.code yJ5_putStringAt_47b60 cJ5_putStringAt_47b60 3 none ∈ AL := AL_in (T4 (List.mem_of_getElem? (i := 111) rfl)) rfl
theorem YJ5_putStringAt_47b60 : YL mJ5_putStringAt_47b60 2 := ⟨rfl, w4_111, w1_24, ⟨by decide, by decide, by decide +kernel⟩, by decide⟩
abbrev mJx00060_init_a7421 : MI := (yJx00060_init_a7421, cJx00060_init_a7421, 2, none, [])
theorem w2_50 : Cond.code yJx00060_init_a7421 cJx00060_init_a7421 2 none ∈ AL := AL_in (T2 (List.mem_of_getElem? (i := 50) rfl)) rfl
theorem w1_14 : Cond.initialized RJx00060 ∈ AL := AL_in (T1 (List.mem_of_getElem? (i := 14) rfl)) rfl
theorem YJx00060_init_a7421 : YL mJx00060_init_a7421 1 := ⟨rfl, w2_50, w1_14, ⟨by decide, by decide, by decide +kernel⟩, by decide⟩
abbrev mJx29ce0_ordinal_8abf5 : MI := (yJx29ce0_ordinal_8abf5, cJx29ce0_ordinal_8abf5, 1, (some .int), [])
theorem w5_94 : Cond.code yJx29ce0_ordinal_8abf5 cJx29ce0_ordinal_8abf5 1 (some .int) ∈ AL := AL_in (T5 (List.mem_of_getElem? (i := 94) rfl)) rfl
theorem w1_7 : Cond.initialized RJx29ce0 ∈ AL := AL_in (T1 (List.mem_of_getElem? (i := 7) rfl)) rfl
theorem YJx29ce0_ordinal_8abf5 : YL mJx29ce0_ordinal_8abf5 0 := ⟨rfl, w5_94, w1_7, ⟨by decide, by decide, by decide +kernel⟩, by decide⟩
abbrev mJ6_getChars_ba4f3 : MI := (yJ6_getChars_ba4f3, cJ6_getChars_ba4f3, 7, (some .int), [])
theorem w4_154 : Cond.code yJ6_getChars_ba4f3 cJ6_getChars_ba4f3 7 (some .int) ∈ AL := AL_in (T4 (List.mem_of_getElem? (i := 154) rfl)) rfl
theorem w1_23 : Cond.initialized RJ6 ∈ AL := AL_in (T1 (List.mem_of_getElem? (i := 23) rfl)) rfl
theorem YJ6_getChars_ba4f3 : YL mJ6_getChars_ba4f3 3 := ⟨rfl, w4_154, w1_23, ⟨by decide, by decide, by decide +kernel⟩, by decide⟩
abbrev mJ6_stringSize_0f7a4 : MI := (yJ6_stringSize_0f7a4, cJ6_stringSize_0f7a4, 4, (some .int), [])
theorem w4_151 : Cond.code yJ6_stringSize_0f7a4 cJ6_stringSize_0f7a4 4 (some .int) ∈ AL := AL_in (T4 (List.mem_of_getElem? (i := 151) rfl)) rfl
theorem YJ6_stringSize_0f7a4 : YL mJ6_stringSize_0f7a4 1 := ⟨rfl, w4_151, w1_23, ⟨by decide, by decide, by decide +kernel⟩, by decide⟩
abbrev mJ6_bitCount_0f7a4 : MI := (yJ6_bitCount_0f7a4, cJ6_bitCount_0f7a4, 1, (some .int), [])
theorem w3_115 : Cond.code yJ6_bitCount_0f7a4 cJ6_bitCount_0f7a4 1 (some .int) ∈ AL := AL_in (T3 (List.mem_of_getElem? (i := 115) rfl)) rfl
theorem YJ6_bitCount_0f7a4 : YL mJ6_bitCount_0f7a4 1 := ⟨rfl, w3_115, w1_23, ⟨by decide, by decide, by decide +kernel⟩, by decide⟩
abbrev mJ9_max_7cf53 : MI := (yJ9_max_7cf53, cJ9_max_7cf53, 2, (some .int), [])
theorem w4_50 : Cond.code yJ9_max_7cf53 cJ9_max_7cf53 2 (some .int) ∈ AL := AL_in (T4 (List.mem_of_getElem? (i := 50) rfl)) rfl
theorem w1_21 : Cond.initialized RJ9 ∈ AL := AL_in (T1 (List.mem_of_getElem? (i := 21) rfl)) rfl
theorem YJ9_max_7cf53 : YL mJ9_max_7cf53 2 := ⟨rfl, w4_50, w1_21, ⟨by decide, by decide, by decide +kernel⟩, by decide⟩
abbrev mJ9_min_7cf53 : MI := (yJ9_min_7cf53, cJ9_min_7cf53, 2, (some .int), [])
theorem w3_85 : Cond.code yJ9_min_7cf53 cJ9_min_7cf53 2 (some .int) ∈ AL := AL_in (T3 (List.mem_of_getElem? (i := 85) rfl)) rfl
theorem YJ9_min_7cf53 : YL mJ9_min_7cf53 2 := ⟨rfl, w3_85, w1_21, ⟨by decide, by decide, by decide +kernel⟩, by decide⟩
abbrev mJ0_init_81219 : MI := (yJ0_init_81219, cJ0_init_81219, 2, none, [])
theorem w4_176 : Cond.code yJ0_init_81219 cJ0_init_81219 2 none ∈ AL := AL_in (T4 (List.mem_of_getElem? (i := 176) rfl)) rfl
theorem w1_15 : Cond.initialized RJ0 ∈ AL := AL_in (T1 (List.mem_of_getElem? (i := 15) rfl)) rfl
theorem YJ0_init_81219 : YL mJ0_init_81219 1 := ⟨rfl, w4_176, w1_15, ⟨by decide, by decide, by decide +kernel⟩, by decide⟩
abbrev mJ0_length_8abf5 : MI := (yJ0_length_8abf5, cJ0_length_8abf5, 1, (some .int), [])
theorem w4_102 : Cond.code yJ0_length_8abf5 cJ0_length_8abf5 1 (some .int) ∈ AL := AL_in (T4 (List.mem_of_getElem? (i := 102) rfl)) rfl
theorem YJ0_length_8abf5 : YL mJ0_length_8abf5 0 := ⟨rfl, w4_102, w1_15, ⟨by decide, by decide, by decide +kernel⟩, by decide⟩
abbrev mJ0_charAt_5068e : MI := (yJ0_charAt_5068e, cJ0_charAt_5068e, 2, (some .char), [])
theorem w5_3 : Cond.code yJ0_charAt_5068e cJ0_charAt_5068e 2 (some .char) ∈ AL := AL_in (T5 (List.mem_of_getElem? (i := 3) rfl)) rfl
theorem YJ0_charAt_5068e : YL mJ0_charAt_5068e 1 := ⟨rfl, w5_3, w1_15, ⟨by decide, by decide, by decide +kernel⟩, by decide⟩
abbrev mJ0_getBytes_840e7 : MI := (yJ0_getBytes_840e7, cJ0_getBytes_840e7, 4, none, [])
theorem w4_139 : Cond.code yJ0_getBytes_840e7 cJ0_getBytes_840e7 4 none ∈ AL := AL_in (T4 (List.mem_of_getElem? (i := 139) rfl)) rfl
theorem YJ0_getBytes_840e7 : YL mJ0_getBytes_840e7 3 := ⟨rfl, w4_139, w1_15, ⟨by decide, by decide, by decide +kernel⟩, by decide⟩
abbrev mJ0_init_db425 : MI := (yJ0_init_db425, cJ0_init_db425, 5, none, [])
theorem w4_179 : Cond.code yJ0_init_db425 cJ0_init_db425 5 none ∈ AL := AL_in (T4 (List.mem_of_getElem? (i := 179) rfl)) rfl
theorem YJ0_init_db425 : YL mJ0_init_db425 2 := ⟨rfl, w4_179, w1_15, ⟨by decide, by decide, by decide +kernel⟩, by decide⟩
abbrev mJ0_coder_7d493 : MI := (yJ0_coder_7d493, cJ0_coder_7d493, 1, (some .byte), [])
theorem w4_106 : Cond.code yJ0_coder_7d493 cJ0_coder_7d493 1 (some .byte) ∈ AL := AL_in (T4 (List.mem_of_getElem? (i := 106) rfl)) rfl
theorem YJ0_coder_7d493 : YL mJ0_coder_7d493 0 := ⟨rfl, w4_106, w1_15, ⟨by decide, by decide, by decide +kernel⟩, by decide⟩
abbrev mJ0_isLatin1_aae02 : MI := (yJ0_isLatin1_aae02, cJ0_isLatin1_aae02, 1, (some .boolean), [])
theorem w5_7 : Cond.code yJ0_isLatin1_aae02 cJ0_isLatin1_aae02 1 (some .boolean) ∈ AL := AL_in (T5 (List.mem_of_getElem? (i := 7) rfl)) rfl
theorem YJ0_isLatin1_aae02 : YL mJ0_isLatin1_aae02 0 := ⟨rfl, w5_7, w1_15, ⟨by decide, by decide, by decide +kernel⟩, by decide⟩
abbrev mJ0_checkIndex_df160 : MI := (yJ0_checkIndex_df160, cJ0_checkIndex_df160, 2, none, [])
theorem w5_13 : Cond.code yJ0_checkIndex_df160 cJ0_checkIndex_df160 2 none ∈ AL := AL_in (T5 (List.mem_of_getElem? (i := 13) rfl)) rfl
theorem YJ0_checkIndex_df160 : YL mJ0_checkIndex_df160 2 := ⟨rfl, w5_13, w1_15, ⟨by decide, by decide, by decide +kernel⟩, by decide⟩
abbrev mJ0_checkBoundsOffCount_cabcc : MI := (yJ0_checkBoundsOffCount_cabcc, cJ0_checkBoundsOffCount_cabcc, 3, (some .int), [])
theorem w4_132 : Cond.code yJ0_checkBoundsOffCount_cabcc cJ0_checkBoundsOffCount_cabcc 3 (some .int) ∈ AL := AL_in (T4 (List.mem_of_getElem? (i := 132) rfl)) rfl
theorem YJ0_checkBoundsOffCount_cabcc : YL mJ0_checkBoundsOffCount_cabcc 3 := ⟨rfl, w4_132, w1_15, ⟨by decide, by decide, by decide +kernel⟩, by decide⟩
abbrev mJ0_checkBoundsBeginEnd_23922 : MI := (yJ0_checkBoundsBeginEnd_23922, cJ0_checkBoundsBeginEnd_23922, 3, none, [])
theorem w4_84 : Cond.code yJ0_checkBoundsBeginEnd_23922 cJ0_checkBoundsBeginEnd_23922 3 none ∈ AL := AL_in (T4 (List.mem_of_getElem? (i := 84) rfl)) rfl
theorem YJ0_checkBoundsBeginEnd_23922 : YL mJ0_checkBoundsBeginEnd_23922 3 := ⟨rfl, w4_84, w1_15, ⟨by decide, by decide, by decide +kernel⟩, by decide⟩
abbrev mJ4_init_da8c8 : MI := (yJ4_init_da8c8, cJ4_init_da8c8, 1, none, [])
theorem w3_238 : Cond.code yJ4_init_da8c8 cJ4_init_da8c8 1 none ∈ AL := AL_in (T3 (List.mem_of_getElem? (i := 238) rfl)) rfl
theorem w1_25 : Cond.initialized RJ4 ∈ AL := AL_in (T1 (List.mem_of_getElem? (i := 25) rfl)) rfl
theorem YJ4_init_da8c8 : YL mJ4_init_da8c8 0 := ⟨rfl, w3_238, w1_25, ⟨by decide, by decide, by decide +kernel⟩, by decide⟩
abbrev mJ4_length_8abf5 : MI := (yJ4_length_8abf5, cJ4_length_8abf5, 1, (some .int), [])
theorem w4_191 : Cond.code yJ4_length_8abf5 cJ4_length_8abf5 1 (some .int) ∈ AL := AL_in (T4 (List.mem_of_getElem? (i := 191) rfl)) rfl
theorem YJ4_length_8abf5 : YL mJ4_length_8abf5 0 := ⟨rfl, w4_191, w1_25, ⟨by decide, by decide, by decide +kernel⟩, by decide⟩
abbrev mJ1_charAt_3b067 : MI := (yJ1_charAt_3b067, cJ1_charAt_3b067, 2, (some .char), [])
theorem w5_10 : Cond.code yJ1_charAt_3b067 cJ1_charAt_3b067 2 (some .char) ∈ AL := AL_in (T5 (List.mem_of_getElem? (i := 10) rfl)) rfl
theorem w1_30 : Cond.initialized RJ1 ∈ AL := AL_in (T1 (List.mem_of_getElem? (i := 30) rfl)) rfl
theorem YJ1_charAt_3b067 : YL mJ1_charAt_3b067 2 := ⟨rfl, w5_10, w1_30, ⟨by decide, by decide, by decide +kernel⟩, by decide⟩
abbrev mJ1_inflate_0e8fd : MI := (yJ1_inflate_0e8fd, cJ1_inflate_0e8fd, 5, none, [])
theorem w4_123 : Cond.code yJ1_inflate_0e8fd cJ1_inflate_0e8fd 5 none ∈ AL := AL_in (T4 (List.mem_of_getElem? (i := 123) rfl)) rfl
theorem YJ1_inflate_0e8fd : YL mJ1_inflate_0e8fd 5 := ⟨rfl, w4_123, w1_30, ⟨by decide, by decide, by decide +kernel⟩, by decide⟩
abbrev mJ2_newBytesLength_0f7a4 : MI := (yJ2_newBytesLength_0f7a4, cJ2_newBytesLength_0f7a4, 1, (some .int), [])
theorem w4_10 : Cond.code yJ2_newBytesLength_0f7a4 cJ2_newBytesLength_0f7a4 1 (some .int) ∈ AL := AL_in (T4 (List.mem_of_getElem? (i := 10) rfl)) rfl
theorem w1_26 : Cond.initialized RJ2 ∈ AL := AL_in (T1 (List.mem_of_getElem? (i := 26) rfl)) rfl
theorem YJ2_newBytesLength_0f7a4 : YL mJ2_newBytesLength_0f7a4 1 := ⟨rfl, w4_10, w1_26, ⟨by decide, by decide, by decide +kernel⟩, by decide⟩
abbrev mJ2_putChar_b72d1 : MI := (yJ2_putChar_b72d1, cJ2_putChar_b72d1, 3, none, [])
theorem w4_92 : Cond.code yJ2_putChar_b72d1 cJ2_putChar_b72d1 3 none ∈ AL := AL_in (T4 (List.mem_of_getElem? (i := 92) rfl)) rfl
theorem YJ2_putChar_b72d1 : YL mJ2_putChar_b72d1 3 := ⟨rfl, w4_92, w1_26, ⟨by decide, by decide, by decide +kernel⟩, by decide⟩
abbrev mJ2_getChar_3b067 : MI := (yJ2_getChar_3b067, cJ2_getChar_3b067, 2, (some .char), [])
theorem w4_220 : Cond.code yJ2_getChar_3b067 cJ2_getChar_3b067 2 (some .char) ∈ AL := AL_in (T4 (List.mem_of_getElem? (i := 220) rfl)) rfl
theorem YJ2_getChar_3b067 : YL mJ2_getChar_3b067 2 := ⟨rfl, w4_220, w1_26, ⟨by decide, by decide, by decide +kernel⟩, by decide⟩
abbrev mJ2_length_9d52b : MI := (yJ2_length_9d52b, cJ2_length_9d52b, 1, (some .int), [])
theorem w4_81 : Cond.code yJ2_length_9d52b cJ2_length_9d52b 1 (some .int) ∈ AL := AL_in (T4 (List.mem_of_getElem? (i := 81) rfl)) rfl
theorem YJ2_length_9d52b : YL mJ2_length_9d52b 1 := ⟨rfl, w4_81, w1_26, ⟨by decide, by decide, by decide +kernel⟩, by decide⟩
abbrev mJ2_coderFromArrayLen_85cad : MI := (yJ2_coderFromArrayLen_85cad, cJ2_coderFromArrayLen_85cad, 2, (some .byte), [])
theorem w4_224 : Cond.code yJ2_coderFromArrayLen_85cad cJ2_coderFromArrayLen_85cad 2 (some .byte) ∈ AL := AL_in (T4 (List.mem_of_getElem? (i := 224) rfl)) rfl
theorem YJ2_coderFromArrayLen_85cad : YL mJ2_coderFromArrayLen_85cad 2 := ⟨rfl, w4_224, w1_26, ⟨by decide, by decide, by decide +kernel⟩, by decide⟩
abbrev mJ2_compress_5af95 : MI := (yJ2_compress_5af95, cJ2_compress_5af95, 7, (some .int), [])
theorem w4_217 : Cond.code yJ2_compress_5af95 cJ2_compress_5af95 7 (some .int) ∈ AL := AL_in (T4 (List.mem_of_getElem? (i := 217) rfl)) rfl
theorem YJ2_compress_5af95 : YL mJ2_compress_5af95 5 := ⟨rfl, w4_217, w1_26, ⟨by decide, by decide, by decide +kernel⟩, by decide⟩
abbrev mJ2_getChars_46870 : MI := (yJ2_getChars_46870, cJ2_getChars_46870, 5, (some .int), [])
theorem w4_161 : Cond.code yJ2_getChars_46870 cJ2_getChars_46870 5 (some .int) ∈ AL := AL_in (T4 (List.mem_of_getElem? (i := 161) rfl)) rfl
theorem YJ2_getChars_46870 : YL mJ2_getChars_46870 4 := ⟨rfl, w4_161, w1_26, ⟨by decide, by decide, by decide +kernel⟩, by decide⟩
abbrev mJ2_putCharsAt_cd4e5 : MI := (yJ2_putCharsAt_cd4e5, cJ2_putCharsAt_cd4e5, 7, (some .int), [])
theorem w4_75 : Cond.code yJ2_putCharsAt_cd4e5 cJ2_putCharsAt_cd4e5 7 (some .int) ∈ AL := AL_in (T4 (List.mem_of_getElem? (i := 75) rfl)) rfl
theorem YJ2_putCharsAt_cd4e5 : YL mJ2_putCharsAt_cd4e5 6 := ⟨rfl, w4_75, w1_26, ⟨by decide, by decide, by decide +kernel⟩, by decide⟩
abbrev mJ2_charAt_3b067 : MI := (yJ2_charAt_3b067, cJ2_charAt_3b067, 2, (some .char), [])
theorem w5_19 : Cond.code yJ2_charAt_3b067 cJ2_charAt_3b067 2 (some .char) ∈ AL := AL_in (T5 (List.mem_of_getElem? (i := 19) rfl)) rfl
theorem YJ2_charAt_3b067 : YL mJ2_charAt_3b067 2 := ⟨rfl, w5_19, w1_26, ⟨by decide, by decide, by decide +kernel⟩, by decide⟩
abbrev mJ2_inflate_0e8fd : MI := (yJ2_inflate_0e8fd, cJ2_inflate_0e8fd, 6, none, [])
theorem w4_126 : Cond.code yJ2_inflate_0e8fd cJ2_inflate_0e8fd 6 none ∈ AL := AL_in (T4 (List.mem_of_getElem? (i := 126) rfl)) rfl
theorem YJ2_inflate_0e8fd : YL mJ2_inflate_0e8fd 5 := ⟨rfl, w4_126, w1_26, ⟨by decide, by decide, by decide +kernel⟩, by decide⟩
abbrev mJ2_getChars_ba4f3 : MI := (yJ2_getChars_ba4f3, cJ2_getChars_ba4f3, 7, (some .int), [])
theorem w4_164 : Cond.code yJ2_getChars_ba4f3 cJ2_getChars_ba4f3 7 (some .int) ∈ AL := AL_in (T4 (List.mem_of_getElem? (i := 164) rfl)) rfl
theorem YJ2_getChars_ba4f3 : YL mJ2_getChars_ba4f3 3 := ⟨rfl, w4_164, w1_26, ⟨by decide, by decide, by decide +kernel⟩, by decide⟩
abbrev mJ2_checkIndex_2214a : MI := (yJ2_checkIndex_2214a, cJ2_checkIndex_2214a, 2, none, [])
theorem w5_22 : Cond.code yJ2_checkIndex_2214a cJ2_checkIndex_2214a 2 none ∈ AL := AL_in (T5 (List.mem_of_getElem? (i := 22) rfl)) rfl
theorem YJ2_checkIndex_2214a : YL mJ2_checkIndex_2214a 2 := ⟨rfl, w5_22, w1_26, ⟨by decide, by decide, by decide +kernel⟩, by decide⟩
abbrev mJ2_checkBoundsBeginEnd_d044e : MI := (yJ2_checkBoundsBeginEnd_d044e, cJ2_checkBoundsBeginEnd_d044e, 3, none, [])
theorem w4_78 : Cond.code yJ2_checkBoundsBeginEnd_d044e cJ2_checkBoundsBeginEnd_d044e 3 none ∈ AL := AL_in (T4 (List.mem_of_getElem? (i := 78) rfl)) rfl
theorem YJ2_checkBoundsBeginEnd_d044e : YL mJ2_checkBoundsBeginEnd_d044e 3 := ⟨rfl, w4_78, w1_26, ⟨by decide, by decide, by decide +kernel⟩, by decide⟩
abbrev mJ2_checkBoundsOffCount_d044e : MI := (yJ2_checkBoundsOffCount_d044e, cJ2_checkBoundsOffCount_d044e, 3, none, [])
theorem w4_129 : Cond.code yJ2_checkBoundsOffCount_d044e cJ2_checkBoundsOffCount_d044e 3 none ∈ AL := AL_in (T4 (List.mem_of_getElem? (i := 129) rfl)) rfl
theorem YJ2_checkBoundsOffCount_d044e : YL mJ2_checkBoundsOffCount_d044e 3 := ⟨rfl, w4_129, w1_26, ⟨by decide, by decide, by decide +kernel⟩, by decide⟩
abbrev mJ7_checkLength_df160 : MI := (yJ7_checkLength_df160, cJ7_checkLength_df160, 2, none, [])
theorem w4_203 : Cond.code yJ7_checkLength_df160 cJ7_checkLength_df160 2 none ∈ AL := AL_in (T4 (List.mem_of_getElem? (i := 203) rfl)) rfl
theorem w1_28 : Cond.initialized RJ7 ∈ AL := AL_in (T1 (List.mem_of_getElem? (i := 28) rfl)) rfl
theorem YJ7_checkLength_df160 : YL mJ7_checkLength_df160 2 := ⟨rfl, w4_203, w1_28, ⟨by decide, by decide, by decide +kernel⟩, by decide⟩
abbrev mJ8_newLength_cabcc : MI := (yJ8_newLength_cabcc, cJ8_newLength_cabcc, 4, (some .int), [])
theorem w4_47 : Cond.code yJ8_newLength_cabcc cJ8_newLength_cabcc 4 (some .int) ∈ AL := AL_in (T4 (List.mem_of_getElem? (i := 47) rfl)) rfl
theorem w1_27 : Cond.initialized RJ8 ∈ AL := AL_in (T1 (List.mem_of_getElem? (i := 27) rfl)) rfl
theorem YJ8_newLength_cabcc : YL mJ8_newLength_cabcc 3 := ⟨rfl, w4_47, w1_27, ⟨by decide, by decide, by decide +kernel⟩, by decide⟩
abbrev mJ8_hugeLength_7cf53 : MI := (yJ8_hugeLength_7cf53, cJ8_hugeLength_7cf53, 3, (some .int), [])
theorem w4_54 : Cond.code yJ8_hugeLength_7cf53 cJ8_hugeLength_7cf53 3 (some .int) ∈ AL := AL_in (T4 (List.mem_of_getElem? (i := 54) rfl)) rfl
theorem YJ8_hugeLength_7cf53 : YL mJ8_hugeLength_7cf53 2 := ⟨rfl, w4_54, w1_27, ⟨by decide, by decide, by decide +kernel⟩, by decide⟩
abbrev mJ3_checkIndex_8e157 : MI := (yJ3_checkIndex_8e157, cJ3_checkIndex_8e157, 3, (some .int), [])
theorem w5_16 : Cond.code yJ3_checkIndex_8e157 cJ3_checkIndex_8e157 3 (some .int) ∈ AL := AL_in (T5 (List.mem_of_getElem? (i := 16) rfl)) rfl
theorem w1_29 : Cond.initialized RJ3 ∈ AL := AL_in (T1 (List.mem_of_getElem? (i := 29) rfl)) rfl
theorem YJ3_checkIndex_8e157 : YL mJ3_checkIndex_8e157 3 := ⟨rfl, w5_16, w1_29, ⟨by decide, by decide, by decide +kernel⟩, by decide⟩
abbrev mJ3_checkFromToIndex_8c36e : MI := (yJ3_checkFromToIndex_8c36e, cJ3_checkFromToIndex_8c36e, 4, (some .int), [])
theorem w4_89 : Cond.code yJ3_checkFromToIndex_8c36e cJ3_checkFromToIndex_8c36e 4 (some .int) ∈ AL := AL_in (T4 (List.mem_of_getElem? (i := 89) rfl)) rfl
theorem YJ3_checkFromToIndex_8c36e : YL mJ3_checkFromToIndex_8c36e 4 := ⟨rfl, w4_89, w1_29, ⟨by decide, by decide, by decide +kernel⟩, by decide⟩
abbrev mJ3_checkFromIndexSize_8c36e : MI := (yJ3_checkFromIndexSize_8c36e, cJ3_checkFromIndexSize_8c36e, 4, (some .int), [])
theorem w4_135 : Cond.code yJ3_checkFromIndexSize_8c36e cJ3_checkFromIndexSize_8c36e 4 (some .int) ∈ AL := AL_in (T4 (List.mem_of_getElem? (i := 135) rfl)) rfl
theorem YJ3_checkFromIndexSize_8c36e : YL mJ3_checkFromIndexSize_8c36e 4 := ⟨rfl, w4_135, w1_29, ⟨by decide, by decide, by decide +kernel⟩, by decide⟩
abbrev mL_cell : MI := (yL_cell, cL_cell, 2, (some .int), [])
theorem w2_42 : Cond.code yL_cell cL_cell 2 (some .int) ∈ AL := AL_in (T2 (List.mem_of_getElem? (i := 42) rfl)) rfl
theorem w1_0 : Cond.initialized RL ∈ AL := AL_in (T1 (List.mem_of_getElem? (i := 0) rfl)) rfl
theorem YL_cell : YL mL_cell 2 := ⟨rfl, w2_42, w1_0, ⟨by decide, by decide, by decide +kernel⟩, by decide⟩
abbrev mL_pick : MI := (yL_pick, cL_pick, 3, (some .int), [])
theorem w2_39 : Cond.code yL_pick cL_pick 3 (some .int) ∈ AL := AL_in (T2 (List.mem_of_getElem? (i := 39) rfl)) rfl
theorem YL_pick : YL mL_pick 3 := ⟨rfl, w2_39, w1_0, ⟨by decide, by decide, by decide +kernel⟩, by decide⟩
abbrev mL_addBlock : MI := (yL_addBlock, cL_addBlock, 3, (some .int), [(0, 5, 6, 20), (0, 5, 10, 22)])
theorem w3_88 : Cond.codeWith yL_addBlock cL_addBlock 3 (some .int) [(0, 5, 6, 20), (0, 5, 10, 22)] ∈ AL := AL_in (T3 (List.mem_of_getElem? (i := 88) rfl)) rfl
theorem YL_addBlock : headC mL_addBlock ∈ AL ∧ Cond.initialized mL_addBlock.1.cls ∈ AL ∧ (mL_addBlock.1.cls ≠ "java/lang/invoke/MethodHandle" ∧ mL_addBlock.1.cls ≠ "java/lang/invoke/VarHandle" ∧ (parseMethodDescriptor mL_addBlock.1.desc).map (fun d => d.parameters.length) = some 2) ∧ mL_addBlock.2.2.1 ≤ 40 := ⟨w3_88, w1_0, ⟨by decide, by decide, by decide +kernel⟩, by decide⟩
abbrev mL_addCushion : MI := (yL_addCushion, cL_addCushion, 3, (some .int), [(0, 5, 6, 20), (0, 5, 10, 22)])
theorem w3_10 : Cond.codeWith yL_addCushion cL_addCushion 3 (some .int) [(0, 5, 6, 20), (0, 5, 10, 22)] ∈ AL := AL_in (T3 (List.mem_of_getElem? (i := 10) rfl)) rfl
theorem YL_addCushion : headC mL_addCushion ∈ AL ∧ Cond.initialized mL_addCushion.1.cls ∈ AL ∧ (mL_addCushion.1.cls ≠ "java/lang/invoke/MethodHandle" ∧ mL_addCushion.1.cls ≠ "java/lang/invoke/VarHandle" ∧ (parseMethodDescriptor mL_addCushion.1.desc).map (fun d => d.parameters.length) = some 2) ∧ mL_addCushion.2.2.1 ≤ 40 := ⟨w3_10, w1_0, ⟨by decide, by decide, by decide +kernel⟩, by decide⟩
abbrev mL_link : MI := (yL_link, cL_link, 4, (some .int), [(0, 6, 7, 31), (0, 6, 11, 20), (0, 6, 15, 22)])
theorem w3_95 : Cond.codeWith yL_link cL_link 4 (some .int) [(0, 6, 7, 31), (0, 6, 11, 20), (0, 6, 15, 22)] ∈ AL := AL_in (T3 (List.mem_of_getElem? (i := 95) rfl)) rfl
theorem YL_link : headC mL_link ∈ AL ∧ Cond.initialized mL_link.1.cls ∈ AL ∧ (mL_link.1.cls ≠ "java/lang/invoke/MethodHandle" ∧ mL_link.1.cls ≠ "java/lang/invoke/VarHandle" ∧ (parseMethodDescriptor mL_link.1.desc).map (fun d => d.parameters.length) = some 3) ∧ mL_link.2.2.1 ≤ 40 := ⟨w3_95, w1_0, ⟨by decide, by decide, by decide +kernel⟩, by decide⟩
abbrev mL_unlink : MI := (yL_unlink, cL_unlink, 4, (some .int), [(0, 6, 7, 31), (0, 6, 11, 36)])
theorem w3_121 : Cond.codeWith yL_unlink cL_unlink 4 (some .int) [(0, 6, 7, 31), (0, 6, 11, 36)] ∈ AL := AL_in (T3 (List.mem_of_getElem? (i := 121) rfl)) rfl
theorem YL_unlink : headC mL_unlink ∈ AL ∧ Cond.initialized mL_unlink.1.cls ∈ AL ∧ (mL_unlink.1.cls ≠ "java/lang/invoke/MethodHandle" ∧ mL_unlink.1.cls ≠ "java/lang/invoke/VarHandle" ∧ (parseMethodDescriptor mL_unlink.1.desc).map (fun d => d.parameters.length) = some 3) ∧ mL_unlink.2.2.1 ≤ 40 := ⟨w3_121, w1_0, ⟨by decide, by decide, by decide +kernel⟩, by decide⟩
abbrev mL_putCat : MI := (yL_putCat, cL_putCat, 3, (some .int), [(0, 5, 6, 31), (0, 5, 10, 22), (0, 5, 14, 41)])
theorem w3_132 : Cond.codeWith yL_putCat cL_putCat 3 (some .int) [(0, 5, 6, 31), (0, 5, 10, 22), (0, 5, 14, 41)] ∈ AL := AL_in (T3 (List.mem_of_getElem? (i := 132) rfl)) rfl
theorem YL_putCat : headC mL_putCat ∈ AL ∧ Cond.initialized mL_putCat.1.cls ∈ AL ∧ (mL_putCat.1.cls ≠ "java/lang/invoke/MethodHandle" ∧ mL_putCat.1.cls ≠ "java/lang/invoke/VarHandle" ∧ (parseMethodDescriptor mL_putCat.1.desc).map (fun d => d.parameters.length) = some 2) ∧ mL_putCat.2.2.1 ≤ 40 := ⟨w3_132, w1_0, ⟨by decide, by decide, by decide +kernel⟩, by decide⟩
abbrev mL_removeCat : MI := (yL_removeCat, cL_removeCat, 3, (some .int), [(0, 5, 6, 31), (0, 5, 10, 36)])
theorem w3_206 : Cond.codeWith yL_removeCat cL_removeCat 3 (some .int) [(0, 5, 6, 31), (0, 5, 10, 36)] ∈ AL := AL_in (T3 (List.mem_of_getElem? (i := 206) rfl)) rfl
theorem YL_removeCat : headC mL_removeCat ∈ AL ∧ Cond.initialized mL_removeCat.1.cls ∈ AL ∧ (mL_removeCat.1.cls ≠ "java/lang/invoke/MethodHandle" ∧ mL_removeCat.1.cls ≠ "java/lang/invoke/VarHandle" ∧ (parseMethodDescriptor mL_removeCat.1.desc).map (fun d => d.parameters.length) = some 2) ∧ mL_removeCat.2.2.1 ≤ 40 := ⟨w3_206, w1_0, ⟨by decide, by decide, by decide +kernel⟩, by decide⟩
abbrev mL_length : MI := (yL_length, cL_length, 3, (some .int), [(0, 5, 6, 31)])
theorem w5_107 : Cond.codeWith yL_length cL_length 3 (some .int) [(0, 5, 6, 31)] ∈ AL := AL_in (T5 (List.mem_of_getElem? (i := 107) rfl)) rfl
theorem YL_length : headC mL_length ∈ AL ∧ Cond.initialized mL_length.1.cls ∈ AL ∧ (mL_length.1.cls ≠ "java/lang/invoke/MethodHandle" ∧ mL_length.1.cls ≠ "java/lang/invoke/VarHandle" ∧ (parseMethodDescriptor mL_length.1.desc).map (fun d => d.parameters.length) = some 2) ∧ mL_length.2.2.1 ≤ 40 := ⟨w5_107, w1_0, ⟨by decide, by decide, by decide +kernel⟩, by decide⟩
abbrev mL_isCushion : MI := (yL_isCushion, cL_isCushion, 3, (some .int), [(0, 13, 14, 31)])
theorem w5_120 : Cond.codeWith yL_isCushion cL_isCushion 3 (some .int) [(0, 13, 14, 31)] ∈ AL := AL_in (T5 (List.mem_of_getElem? (i := 120) rfl)) rfl
theorem YL_isCushion : headC mL_isCushion ∈ AL ∧ Cond.initialized mL_isCushion.1.cls ∈ AL ∧ (mL_isCushion.1.cls ≠ "java/lang/invoke/MethodHandle" ∧ mL_isCushion.1.cls ≠ "java/lang/invoke/VarHandle" ∧ (parseMethodDescriptor mL_isCushion.1.desc).map (fun d => d.parameters.length) = some 2) ∧ mL_isCushion.2.2.1 ≤ 40 := ⟨w5_120, w1_0, ⟨by decide, by decide, by decide +kernel⟩, by decide⟩
abbrev mL_hasCat : MI := (yL_hasCat, cL_hasCat, 3, (some .int), [(0, 13, 14, 31)])
theorem w5_202 : Cond.codeWith yL_hasCat cL_hasCat 3 (some .int) [(0, 13, 14, 31)] ∈ AL := AL_in (T5 (List.mem_of_getElem? (i := 202) rfl)) rfl
theorem YL_hasCat : headC mL_hasCat ∈ AL ∧ Cond.initialized mL_hasCat.1.cls ∈ AL ∧ (mL_hasCat.1.cls ≠ "java/lang/invoke/MethodHandle" ∧ mL_hasCat.1.cls ≠ "java/lang/invoke/VarHandle" ∧ (parseMethodDescriptor mL_hasCat.1.desc).map (fun d => d.parameters.length) = some 2) ∧ mL_hasCat.2.2.1 ≤ 40 := ⟨w5_202, w1_0, ⟨by decide, by decide, by decide +kernel⟩, by decide⟩
abbrev mL_areLinked : MI := (yL_areLinked, cL_areLinked, 4, (some .int), [(0, 14, 15, 31)])
theorem w5_155 : Cond.codeWith yL_areLinked cL_areLinked 4 (some .int) [(0, 14, 15, 31)] ∈ AL := AL_in (T5 (List.mem_of_getElem? (i := 155) rfl)) rfl
theorem YL_areLinked : headC mL_areLinked ∈ AL ∧ Cond.initialized mL_areLinked.1.cls ∈ AL ∧ (mL_areLinked.1.cls ≠ "java/lang/invoke/MethodHandle" ∧ mL_areLinked.1.cls ≠ "java/lang/invoke/VarHandle" ∧ (parseMethodDescriptor mL_areLinked.1.desc).map (fun d => d.parameters.length) = some 3) ∧ mL_areLinked.2.2.1 ≤ 40 := ⟨w5_155, w1_0, ⟨by decide, by decide, by decide +kernel⟩, by decide⟩
abbrev mL_trainIn : MI := (yL_trainIn, cL_trainIn, 3, (some .int), [(0, 5, 6, 31), (0, 5, 10, 36)])
theorem w5_147 : Cond.codeWith yL_trainIn cL_trainIn 3 (some .int) [(0, 5, 6, 31), (0, 5, 10, 36)] ∈ AL := AL_in (T5 (List.mem_of_getElem? (i := 147) rfl)) rfl
theorem YL_trainIn : headC mL_trainIn ∈ AL ∧ Cond.initialized mL_trainIn.1.cls ∈ AL ∧ (mL_trainIn.1.cls ≠ "java/lang/invoke/MethodHandle" ∧ mL_trainIn.1.cls ≠ "java/lang/invoke/VarHandle" ∧ (parseMethodDescriptor mL_trainIn.1.desc).map (fun d => d.parameters.length) = some 2) ∧ mL_trainIn.2.2.1 ≤ 40 := ⟨w5_147, w1_0, ⟨by decide, by decide, by decide +kernel⟩, by decide⟩
abbrev mL_reservedBy : MI := (yL_reservedBy, cL_reservedBy, 3, (some .int), [(0, 5, 6, 31), (0, 5, 10, 36)])
theorem w5_139 : Cond.codeWith yL_reservedBy cL_reservedBy 3 (some .int) [(0, 5, 6, 31), (0, 5, 10, 36)] ∈ AL := AL_in (T5 (List.mem_of_getElem? (i := 139) rfl)) rfl
theorem YL_reservedBy : headC mL_reservedBy ∈ AL ∧ Cond.initialized mL_reservedBy.1.cls ∈ AL ∧ (mL_reservedBy.1.cls ≠ "java/lang/invoke/MethodHandle" ∧ mL_reservedBy.1.cls ≠ "java/lang/invoke/VarHandle" ∧ (parseMethodDescriptor mL_reservedBy.1.desc).map (fun d => d.parameters.length) = some 2) ∧ mL_reservedBy.2.2.1 ≤ 40 := ⟨w5_139, w1_0, ⟨by decide, by decide, by decide +kernel⟩, by decide⟩
abbrev mL_signal : MI := (yL_signal, cL_signal, 3, (some .int), [(0, 5, 6, 31)])
theorem w5_128 : Cond.codeWith yL_signal cL_signal 3 (some .int) [(0, 5, 6, 31)] ∈ AL := AL_in (T5 (List.mem_of_getElem? (i := 128) rfl)) rfl
theorem YL_signal : headC mL_signal ∈ AL ∧ Cond.initialized mL_signal.1.cls ∈ AL ∧ (mL_signal.1.cls ≠ "java/lang/invoke/MethodHandle" ∧ mL_signal.1.cls ≠ "java/lang/invoke/VarHandle" ∧ (parseMethodDescriptor mL_signal.1.desc).map (fun d => d.parameters.length) = some 2) ∧ mL_signal.2.2.1 ≤ 40 := ⟨w5_128, w1_0, ⟨by decide, by decide, by decide +kernel⟩, by decide⟩
abbrev mL_distance : MI := (yL_distance, cL_distance, 4, (some .int), [(0, 6, 7, 31), (0, 6, 11, 36)])
theorem w5_232 : Cond.codeWith yL_distance cL_distance 4 (some .int) [(0, 6, 7, 31), (0, 6, 11, 36)] ∈ AL := AL_in (T5 (List.mem_of_getElem? (i := 232) rfl)) rfl
theorem YL_distance : headC mL_distance ∈ AL ∧ Cond.initialized mL_distance.1.cls ∈ AL ∧ (mL_distance.1.cls ≠ "java/lang/invoke/MethodHandle" ∧ mL_distance.1.cls ≠ "java/lang/invoke/VarHandle" ∧ (parseMethodDescriptor mL_distance.1.desc).map (fun d => d.parameters.length) = some 3) ∧ mL_distance.2.2.1 ≤ 40 := ⟨w5_232, w1_0, ⟨by decide, by decide, by decide +kernel⟩, by decide⟩
abbrev mL_distanceByRounds : MI := (yL_distanceByRounds, cL_distanceByRounds, 4, (some .int), [(0, 6, 7, 31), (0, 6, 11, 36)])
theorem w6_72 : Cond.codeWith yL_distanceByRounds cL_distanceByRounds 4 (some .int) [(0, 6, 7, 31), (0, 6, 11, 36)] ∈ AL := AL_in (T6 (List.mem_of_getElem? (i := 72) rfl)) rfl
theorem YL_distanceByRounds : headC mL_distanceByRounds ∈ AL ∧ Cond.initialized mL_distanceByRounds.1.cls ∈ AL ∧ (mL_distanceByRounds.1.cls ≠ "java/lang/invoke/MethodHandle" ∧ mL_distanceByRounds.1.cls ≠ "java/lang/invoke/VarHandle" ∧ (parseMethodDescriptor mL_distanceByRounds.1.desc).map (fun d => d.parameters.length) = some 3) ∧ mL_distanceByRounds.2.2.1 ≤ 40 := ⟨w6_72, w1_0, ⟨by decide, by decide, by decide +kernel⟩, by decide⟩
abbrev mL_nextBlock : MI := (yL_nextBlock, cL_nextBlock, 3, (some .int), [(0, 5, 6, 31), (0, 5, 10, 36)])
theorem w5_212 : Cond.codeWith yL_nextBlock cL_nextBlock 3 (some .int) [(0, 5, 6, 31), (0, 5, 10, 36)] ∈ AL := AL_in (T5 (List.mem_of_getElem? (i := 212) rfl)) rfl
theorem YL_nextBlock : headC mL_nextBlock ∈ AL ∧ Cond.initialized mL_nextBlock.1.cls ∈ AL ∧ (mL_nextBlock.1.cls ≠ "java/lang/invoke/MethodHandle" ∧ mL_nextBlock.1.cls ≠ "java/lang/invoke/VarHandle" ∧ (parseMethodDescriptor mL_nextBlock.1.desc).map (fun d => d.parameters.length) = some 2) ∧ mL_nextBlock.2.2.1 ≤ 40 := ⟨w5_212, w1_0, ⟨by decide, by decide, by decide +kernel⟩, by decide⟩
abbrev mL_nearestCushion : MI := (yL_nearestCushion, cL_nearestCushion, 3, (some .int), [(0, 5, 6, 31), (0, 5, 10, 36)])
theorem w6_87 : Cond.codeWith yL_nearestCushion cL_nearestCushion 3 (some .int) [(0, 5, 6, 31), (0, 5, 10, 36)] ∈ AL := AL_in (T6 (List.mem_of_getElem? (i := 87) rfl)) rfl
theorem YL_nearestCushion : headC mL_nearestCushion ∈ AL ∧ Cond.initialized mL_nearestCushion.1.cls ∈ AL ∧ (mL_nearestCushion.1.cls ≠ "java/lang/invoke/MethodHandle" ∧ mL_nearestCushion.1.cls ≠ "java/lang/invoke/VarHandle" ∧ (parseMethodDescriptor mL_nearestCushion.1.desc).map (fun d => d.parameters.length) = some 2) ∧ mL_nearestCushion.2.2.1 ≤ 40 := ⟨w6_87, w1_0, ⟨by decide, by decide, by decide +kernel⟩, by decide⟩
abbrev mL_addTrain : MI := (yL_addTrain, cL_addTrain, 4, (some .int), [(0, 6, 7, 31), (0, 6, 11, 20), (0, 6, 15, 22), (0, 6, 19, 41)])
theorem w3_144 : Cond.codeWith yL_addTrain cL_addTrain 4 (some .int) [(0, 6, 7, 31), (0, 6, 11, 20), (0, 6, 15, 22), (0, 6, 19, 41)] ∈ AL := AL_in (T3 (List.mem_of_getElem? (i := 144) rfl)) rfl
theorem YL_addTrain : headC mL_addTrain ∈ AL ∧ Cond.initialized mL_addTrain.1.cls ∈ AL ∧ (mL_addTrain.1.cls ≠ "java/lang/invoke/MethodHandle" ∧ mL_addTrain.1.cls ≠ "java/lang/invoke/VarHandle" ∧ (parseMethodDescriptor mL_addTrain.1.desc).map (fun d => d.parameters.length) = some 3) ∧ mL_addTrain.2.2.1 ≤ 40 := ⟨w3_144, w1_0, ⟨by decide, by decide, by decide +kernel⟩, by decide⟩
abbrev mL_setGoal : MI := (yL_setGoal, cL_setGoal, 4, (some .int), [(0, 6, 7, 31), (0, 6, 11, 20), (0, 6, 15, 41), (0, 6, 19, 36)])
theorem w3_155 : Cond.codeWith yL_setGoal cL_setGoal 4 (some .int) [(0, 6, 7, 31), (0, 6, 11, 20), (0, 6, 15, 41), (0, 6, 19, 36)] ∈ AL := AL_in (T3 (List.mem_of_getElem? (i := 155) rfl)) rfl
theorem YL_setGoal : headC mL_setGoal ∈ AL ∧ Cond.initialized mL_setGoal.1.cls ∈ AL ∧ (mL_setGoal.1.cls ≠ "java/lang/invoke/MethodHandle" ∧ mL_setGoal.1.cls ≠ "java/lang/invoke/VarHandle" ∧ (parseMethodDescriptor mL_setGoal.1.desc).map (fun d => d.parameters.length) = some 3) ∧ mL_setGoal.2.2.1 ≤ 40 := ⟨w3_155, w1_0, ⟨by decide, by decide, by decide +kernel⟩, by decide⟩
abbrev mL_clearGoal : MI := (yL_clearGoal, cL_clearGoal, 3, (some .int), [(0, 5, 6, 31), (0, 5, 10, 36)])
theorem w3_168 : Cond.codeWith yL_clearGoal cL_clearGoal 3 (some .int) [(0, 5, 6, 31), (0, 5, 10, 36)] ∈ AL := AL_in (T3 (List.mem_of_getElem? (i := 168) rfl)) rfl
theorem YL_clearGoal : headC mL_clearGoal ∈ AL ∧ Cond.initialized mL_clearGoal.1.cls ∈ AL ∧ (mL_clearGoal.1.cls ≠ "java/lang/invoke/MethodHandle" ∧ mL_clearGoal.1.cls ≠ "java/lang/invoke/VarHandle" ∧ (parseMethodDescriptor mL_clearGoal.1.desc).map (fun d => d.parameters.length) = some 2) ∧ mL_clearGoal.2.2.1 ≤ 40 := ⟨w3_168, w1_0, ⟨by decide, by decide, by decide +kernel⟩, by decide⟩
abbrev mL_reserve : MI := (yL_reserve, cL_reserve, 4, (some .int), [(0, 6, 7, 31), (0, 6, 11, 20), (0, 6, 15, 22), (0, 6, 19, 41)])
theorem w3_180 : Cond.codeWith yL_reserve cL_reserve 4 (some .int) [(0, 6, 7, 31), (0, 6, 11, 20), (0, 6, 15, 22), (0, 6, 19, 41)] ∈ AL := AL_in (T3 (List.mem_of_getElem? (i := 180) rfl)) rfl
theorem YL_reserve : headC mL_reserve ∈ AL ∧ Cond.initialized mL_reserve.1.cls ∈ AL ∧ (mL_reserve.1.cls ≠ "java/lang/invoke/MethodHandle" ∧ mL_reserve.1.cls ≠ "java/lang/invoke/VarHandle" ∧ (parseMethodDescriptor mL_reserve.1.desc).map (fun d => d.parameters.length) = some 3) ∧ mL_reserve.2.2.1 ≤ 40 := ⟨w3_180, w1_0, ⟨by decide, by decide, by decide +kernel⟩, by decide⟩
abbrev mL_cancelReservation : MI := (yL_cancelReservation, cL_cancelReservation, 3, (some .int), [(0, 5, 6, 31), (0, 5, 10, 36)])
theorem w3_195 : Cond.codeWith yL_cancelReservation cL_cancelReservation 3 (some .int) [(0, 5, 6, 31), (0, 5, 10, 36)] ∈ AL := AL_in (T3 (List.mem_of_getElem? (i := 195) rfl)) rfl
theorem YL_cancelReservation : headC mL_cancelReservation ∈ AL ∧ Cond.initialized mL_cancelReservation.1.cls ∈ AL ∧ (mL_cancelReservation.1.cls ≠ "java/lang/invoke/MethodHandle" ∧ mL_cancelReservation.1.cls ≠ "java/lang/invoke/VarHandle" ∧ (parseMethodDescriptor mL_cancelReservation.1.desc).map (fun d => d.parameters.length) = some 2) ∧ mL_cancelReservation.2.2.1 ≤ 40 := ⟨w3_195, w1_0, ⟨by decide, by decide, by decide +kernel⟩, by decide⟩
abbrev mL_rescue : MI := (yL_rescue, cL_rescue, 3, (some .int), [(0, 5, 6, 31), (0, 5, 10, 22)])
theorem w3_217 : Cond.codeWith yL_rescue cL_rescue 3 (some .int) [(0, 5, 6, 31), (0, 5, 10, 22)] ∈ AL := AL_in (T3 (List.mem_of_getElem? (i := 217) rfl)) rfl
theorem YL_rescue : headC mL_rescue ∈ AL ∧ Cond.initialized mL_rescue.1.cls ∈ AL ∧ (mL_rescue.1.cls ≠ "java/lang/invoke/MethodHandle" ∧ mL_rescue.1.cls ≠ "java/lang/invoke/VarHandle" ∧ (parseMethodDescriptor mL_rescue.1.desc).map (fun d => d.parameters.length) = some 2) ∧ mL_rescue.2.2.1 ≤ 40 := ⟨w3_217, w1_0, ⟨by decide, by decide, by decide +kernel⟩, by decide⟩
abbrev mL_blockOf : MI := (yL_blockOf, cL_blockOf, 3, (some .int), [(0, 5, 6, 31)])
theorem w5_163 : Cond.codeWith yL_blockOf cL_blockOf 3 (some .int) [(0, 5, 6, 31)] ∈ AL := AL_in (T5 (List.mem_of_getElem? (i := 163) rfl)) rfl
theorem YL_blockOf : headC mL_blockOf ∈ AL ∧ Cond.initialized mL_blockOf.1.cls ∈ AL ∧ (mL_blockOf.1.cls ≠ "java/lang/invoke/MethodHandle" ∧ mL_blockOf.1.cls ≠ "java/lang/invoke/VarHandle" ∧ (parseMethodDescriptor mL_blockOf.1.desc).map (fun d => d.parameters.length) = some 2) ∧ mL_blockOf.2.2.1 ≤ 40 := ⟨w5_163, w1_0, ⟨by decide, by decide, by decide +kernel⟩, by decide⟩
abbrev mL_priority : MI := (yL_priority, cL_priority, 3, (some .int), [(0, 5, 6, 31)])
theorem w5_171 : Cond.codeWith yL_priority cL_priority 3 (some .int) [(0, 5, 6, 31)] ∈ AL := AL_in (T5 (List.mem_of_getElem? (i := 171) rfl)) rfl
theorem YL_priority : headC mL_priority ∈ AL ∧ Cond.initialized mL_priority.1.cls ∈ AL ∧ (mL_priority.1.cls ≠ "java/lang/invoke/MethodHandle" ∧ mL_priority.1.cls ≠ "java/lang/invoke/VarHandle" ∧ (parseMethodDescriptor mL_priority.1.desc).map (fun d => d.parameters.length) = some 2) ∧ mL_priority.2.2.1 ≤ 40 := ⟨w5_171, w1_0, ⟨by decide, by decide, by decide +kernel⟩, by decide⟩
abbrev mL_remainingTicks : MI := (yL_remainingTicks, cL_remainingTicks, 3, (some .int), [(0, 5, 6, 31)])
theorem w5_178 : Cond.codeWith yL_remainingTicks cL_remainingTicks 3 (some .int) [(0, 5, 6, 31)] ∈ AL := AL_in (T5 (List.mem_of_getElem? (i := 178) rfl)) rfl
theorem YL_remainingTicks : headC mL_remainingTicks ∈ AL ∧ Cond.initialized mL_remainingTicks.1.cls ∈ AL ∧ (mL_remainingTicks.1.cls ≠ "java/lang/invoke/MethodHandle" ∧ mL_remainingTicks.1.cls ≠ "java/lang/invoke/VarHandle" ∧ (parseMethodDescriptor mL_remainingTicks.1.desc).map (fun d => d.parameters.length) = some 2) ∧ mL_remainingTicks.2.2.1 ≤ 40 := ⟨w5_178, w1_0, ⟨by decide, by decide, by decide +kernel⟩, by decide⟩
abbrev mL_goal : MI := (yL_goal, cL_goal, 3, (some .int), [(0, 5, 6, 31), (0, 5, 10, 36)])
theorem w2_46 : Cond.codeWith yL_goal cL_goal 3 (some .int) [(0, 5, 6, 31), (0, 5, 10, 36)] ∈ AL := AL_in (T2 (List.mem_of_getElem? (i := 46) rfl)) rfl
theorem YL_goal : headC mL_goal ∈ AL ∧ Cond.initialized mL_goal.1.cls ∈ AL ∧ (mL_goal.1.cls ≠ "java/lang/invoke/MethodHandle" ∧ mL_goal.1.cls ≠ "java/lang/invoke/VarHandle" ∧ (parseMethodDescriptor mL_goal.1.desc).map (fun d => d.parameters.length) = some 2) ∧ mL_goal.2.2.1 ≤ 40 := ⟨w2_46, w1_0, ⟨by decide, by decide, by decide +kernel⟩, by decide⟩
abbrev mL_isDerailed : MI := (yL_isDerailed, cL_isDerailed, 3, (some .int), [(0, 13, 14, 31)])
theorem w5_185 : Cond.codeWith yL_isDerailed cL_isDerailed 3 (some .int) [(0, 13, 14, 31)] ∈ AL := AL_in (T5 (List.mem_of_getElem? (i := 185) rfl)) rfl
theorem YL_isDerailed : headC mL_isDerailed ∈ AL ∧ Cond.initialized mL_isDerailed.1.cls ∈ AL ∧ (mL_isDerailed.1.cls ≠ "java/lang/invoke/MethodHandle" ∧ mL_isDerailed.1.cls ≠ "java/lang/invoke/VarHandle" ∧ (parseMethodDescriptor mL_isDerailed.1.desc).map (fun d => d.parameters.length) = some 2) ∧ mL_isDerailed.2.2.1 ≤ 40 := ⟨w5_185, w1_0, ⟨by decide, by decide, by decide +kernel⟩, by decide⟩
abbrev mL_waits : MI := (yL_waits, cL_waits, 3, (some .int), [(0, 5, 6, 31)])
theorem w5_192 : Cond.codeWith yL_waits cL_waits 3 (some .int) [(0, 5, 6, 31)] ∈ AL := AL_in (T5 (List.mem_of_getElem? (i := 192) rfl)) rfl
theorem YL_waits : headC mL_waits ∈ AL ∧ Cond.initialized mL_waits.1.cls ∈ AL ∧ (mL_waits.1.cls ≠ "java/lang/invoke/MethodHandle" ∧ mL_waits.1.cls ≠ "java/lang/invoke/VarHandle" ∧ (parseMethodDescriptor mL_waits.1.desc).map (fun d => d.parameters.length) = some 2) ∧ mL_waits.2.2.1 ≤ 40 := ⟨w5_192, w1_0, ⟨by decide, by decide, by decide +kernel⟩, by decide⟩
abbrev mL_trainByPriority : MI := (yL_trainByPriority, cL_trainByPriority, 3, (some .int), [(0, 5, 6, 36)])
theorem w6_0 : Cond.codeWith yL_trainByPriority cL_trainByPriority 3 (some .int) [(0, 5, 6, 36)] ∈ AL := AL_in (T6 (List.mem_of_getElem? (i := 0) rfl)) rfl
theorem YL_trainByPriority : headC mL_trainByPriority ∈ AL ∧ Cond.initialized mL_trainByPriority.1.cls ∈ AL ∧ (mL_trainByPriority.1.cls ≠ "java/lang/invoke/MethodHandle" ∧ mL_trainByPriority.1.cls ≠ "java/lang/invoke/VarHandle" ∧ (parseMethodDescriptor mL_trainByPriority.1.desc).map (fun d => d.parameters.length) = some 2) ∧ mL_trainByPriority.2.2.1 ≤ 40 := ⟨w6_0, w1_0, ⟨by decide, by decide, by decide +kernel⟩, by decide⟩
abbrev mL_blockedBy : MI := (yL_blockedBy, cL_blockedBy, 3, (some .int), [(0, 5, 6, 31), (0, 5, 10, 36)])
theorem w5_220 : Cond.codeWith yL_blockedBy cL_blockedBy 3 (some .int) [(0, 5, 6, 31), (0, 5, 10, 36)] ∈ AL := AL_in (T5 (List.mem_of_getElem? (i := 220) rfl)) rfl
theorem YL_blockedBy : headC mL_blockedBy ∈ AL ∧ Cond.initialized mL_blockedBy.1.cls ∈ AL ∧ (mL_blockedBy.1.cls ≠ "java/lang/invoke/MethodHandle" ∧ mL_blockedBy.1.cls ≠ "java/lang/invoke/VarHandle" ∧ (parseMethodDescriptor mL_blockedBy.1.desc).map (fun d => d.parameters.length) = some 2) ∧ mL_blockedBy.2.2.1 ≤ 40 := ⟨w5_220, w1_0, ⟨by decide, by decide, by decide +kernel⟩, by decide⟩
abbrev mL_passTicks : MI := (yL_passTicks, cL_passTicks, 3, (some .int), [(0, 5, 6, 20)])
theorem w3_228 : Cond.codeWith yL_passTicks cL_passTicks 3 (some .int) [(0, 5, 6, 20)] ∈ AL := AL_in (T3 (List.mem_of_getElem? (i := 228) rfl)) rfl
theorem YL_passTicks : headC mL_passTicks ∈ AL ∧ Cond.initialized mL_passTicks.1.cls ∈ AL ∧ (mL_passTicks.1.cls ≠ "java/lang/invoke/MethodHandle" ∧ mL_passTicks.1.cls ≠ "java/lang/invoke/VarHandle" ∧ (parseMethodDescriptor mL_passTicks.1.desc).map (fun d => d.parameters.length) = some 2) ∧ mL_passTicks.2.2.1 ≤ 40 := ⟨w3_228, w1_0, ⟨by decide, by decide, by decide +kernel⟩, by decide⟩
abbrev mL_ticksUntilArrival : MI := (yL_ticksUntilArrival, cL_ticksUntilArrival, 3, (some .int), [(0, 5, 6, 31), (0, 5, 10, 36)])
theorem w2_174 : Cond.codeWith yL_ticksUntilArrival cL_ticksUntilArrival 3 (some .int) [(0, 5, 6, 31), (0, 5, 10, 36)] ∈ AL := AL_in (T2 (List.mem_of_getElem? (i := 174) rfl)) rfl
theorem YL_ticksUntilArrival : headC mL_ticksUntilArrival ∈ AL ∧ Cond.initialized mL_ticksUntilArrival.1.cls ∈ AL ∧ (mL_ticksUntilArrival.1.cls ≠ "java/lang/invoke/MethodHandle" ∧ mL_ticksUntilArrival.1.cls ≠ "java/lang/invoke/VarHandle" ∧ (parseMethodDescriptor mL_ticksUntilArrival.1.desc).map (fun d => d.parameters.length) = some 2) ∧ mL_ticksUntilArrival.2.2.1 ≤ 40 := ⟨w2_174, w1_0, ⟨by decide, by decide, by decide +kernel⟩, by decide⟩
abbrev mL_meanWaits : MI := (yL_meanWaits, cL_meanWaits, 2, (some .double), [(0, 4, 5, 137)])
theorem w6_8 : Cond.codeWith yL_meanWaits cL_meanWaits 2 (some .double) [(0, 4, 5, 137)] ∈ AL := AL_in (T6 (List.mem_of_getElem? (i := 8) rfl)) rfl
theorem YL_meanWaits : headC mL_meanWaits ∈ AL ∧ Cond.initialized mL_meanWaits.1.cls ∈ AL ∧ (mL_meanWaits.1.cls ≠ "java/lang/invoke/MethodHandle" ∧ mL_meanWaits.1.cls ≠ "java/lang/invoke/VarHandle" ∧ (parseMethodDescriptor mL_meanWaits.1.desc).map (fun d => d.parameters.length) = some 1) ∧ mL_meanWaits.2.2.1 ≤ 40 := ⟨w6_8, w1_0, ⟨by decide, by decide, by decide +kernel⟩, by decide⟩
abbrev mL_occupiedFraction : MI := (yL_occupiedFraction, cL_occupiedFraction, 2, (some .float), [(0, 4, 5, 137)])
theorem w6_37 : Cond.codeWith yL_occupiedFraction cL_occupiedFraction 2 (some .float) [(0, 4, 5, 137)] ∈ AL := AL_in (T6 (List.mem_of_getElem? (i := 37) rfl)) rfl
theorem YL_occupiedFraction : headC mL_occupiedFraction ∈ AL ∧ Cond.initialized mL_occupiedFraction.1.cls ∈ AL ∧ (mL_occupiedFraction.1.cls ≠ "java/lang/invoke/MethodHandle" ∧ mL_occupiedFraction.1.cls ≠ "java/lang/invoke/VarHandle" ∧ (parseMethodDescriptor mL_occupiedFraction.1.desc).map (fun d => d.parameters.length) = some 1) ∧ mL_occupiedFraction.2.2.1 ≤ 40 := ⟨w6_37, w1_0, ⟨by decide, by decide, by decide +kernel⟩, by decide⟩
abbrev mL_feed : MI := (yL_feed, cL_feed, 3, (some .int), [(0, 5, 6, 22)])
theorem w5_26 : Cond.codeWith yL_feed cL_feed 3 (some .int) [(0, 5, 6, 22)] ∈ AL := AL_in (T5 (List.mem_of_getElem? (i := 26) rfl)) rfl
theorem YL_feed : headC mL_feed ∈ AL ∧ Cond.initialized mL_feed.1.cls ∈ AL ∧ (mL_feed.1.cls ≠ "java/lang/invoke/MethodHandle" ∧ mL_feed.1.cls ≠ "java/lang/invoke/VarHandle" ∧ (parseMethodDescriptor mL_feed.1.desc).map (fun d => d.parameters.length) = some 2) ∧ mL_feed.2.2.1 ≤ 40 := ⟨w5_26, w1_0, ⟨by decide, by decide, by decide +kernel⟩, by decide⟩
abbrev mL_execute : MI := (yL_execute, cL_execute, 2, (some .int), [(0, 4, 5, 20), (0, 4, 9, 41)])
theorem w5_38 : Cond.codeWith yL_execute cL_execute 2 (some .int) [(0, 4, 5, 20), (0, 4, 9, 41)] ∈ AL := AL_in (T5 (List.mem_of_getElem? (i := 38) rfl)) rfl
theorem YL_execute : headC mL_execute ∈ AL ∧ Cond.initialized mL_execute.1.cls ∈ AL ∧ (mL_execute.1.cls ≠ "java/lang/invoke/MethodHandle" ∧ mL_execute.1.cls ≠ "java/lang/invoke/VarHandle" ∧ (parseMethodDescriptor mL_execute.1.desc).map (fun d => d.parameters.length) = some 1) ∧ mL_execute.2.2.1 ≤ 40 := ⟨w5_38, w1_0, ⟨by decide, by decide, by decide +kernel⟩, by decide⟩
abbrev mL_undo : MI := (yL_undo, cL_undo, 2, (some .int), [(0, 4, 5, 22)])
theorem w6_138 : Cond.codeWith yL_undo cL_undo 2 (some .int) [(0, 4, 5, 22)] ∈ AL := AL_in (T6 (List.mem_of_getElem? (i := 138) rfl)) rfl
theorem YL_undo : headC mL_undo ∈ AL ∧ Cond.initialized mL_undo.1.cls ∈ AL ∧ (mL_undo.1.cls ≠ "java/lang/invoke/MethodHandle" ∧ mL_undo.1.cls ≠ "java/lang/invoke/VarHandle" ∧ (parseMethodDescriptor mL_undo.1.desc).map (fun d => d.parameters.length) = some 1) ∧ mL_undo.2.2.1 ≤ 40 := ⟨w6_138, w1_0, ⟨by decide, by decide, by decide +kernel⟩, by decide⟩
abbrev mL_restore : MI := (yL_restore, cL_restore, 2, (some .int), [(0, 4, 5, 22)])
theorem w6_150 : Cond.codeWith yL_restore cL_restore 2 (some .int) [(0, 4, 5, 22)] ∈ AL := AL_in (T6 (List.mem_of_getElem? (i := 150) rfl)) rfl
theorem YL_restore : headC mL_restore ∈ AL ∧ Cond.initialized mL_restore.1.cls ∈ AL ∧ (mL_restore.1.cls ≠ "java/lang/invoke/MethodHandle" ∧ mL_restore.1.cls ≠ "java/lang/invoke/VarHandle" ∧ (parseMethodDescriptor mL_restore.1.desc).map (fun d => d.parameters.length) = some 1) ∧ mL_restore.2.2.1 ≤ 40 := ⟨w6_150, w1_0, ⟨by decide, by decide, by decide +kernel⟩, by decide⟩
abbrev mL_runs : MI := (yL_runs, cL_runs, 4, (some .int), [])
theorem w4_238 : Cond.code yL_runs cL_runs 4 (some .int) ∈ AL := AL_in (T4 (List.mem_of_getElem? (i := 238) rfl)) rfl
theorem YL_runs : YL mL_runs 2 := ⟨rfl, w4_238, w1_0, ⟨by decide, by decide, by decide +kernel⟩, by decide⟩
abbrev mL_does : MI := (yL_does, cL_does, 11, (some .int), [])
theorem w3_3 : Cond.code yL_does cL_does 11 (some .int) ∈ AL := AL_in (T3 (List.mem_of_getElem? (i := 3) rfl)) rfl
theorem YL_does : YL mL_does 6 := ⟨rfl, w3_3, w1_0, ⟨by decide, by decide, by decide +kernel⟩, by decide⟩
abbrev mL_sum : MI := (yL_sum, cL_sum, 5, (some .long), [])
theorem w5_102 : Cond.code yL_sum cL_sum 5 (some .long) ∈ AL := AL_in (T5 (List.mem_of_getElem? (i := 102) rfl)) rfl
theorem YL_sum : YL mL_sum 1 := ⟨rfl, w5_102, w1_0, ⟨by decide, by decide, by decide +kernel⟩, by decide⟩
abbrev mL_areWays : MI := (yL_areWays, cL_areWays, 8, (some .boolean), [])
theorem w6_67 : Cond.code yL_areWays cL_areWays 8 (some .boolean) ∈ AL := AL_in (T6 (List.mem_of_getElem? (i := 67) rfl)) rfl
theorem YL_areWays : YL mL_areWays 1 := ⟨rfl, w6_67, w1_0, ⟨by decide, by decide, by decide +kernel⟩, by decide⟩
abbrev mL_isTrain : MI := (yL_isTrain, cL_isTrain, 9, (some .boolean), [])
theorem w5_209 : Cond.code yL_isTrain cL_isTrain 9 (some .boolean) ∈ AL := AL_in (T5 (List.mem_of_getElem? (i := 209) rfl)) rfl
theorem YL_isTrain : YL mL_isTrain 2 := ⟨rfl, w5_209, w1_0, ⟨by decide, by decide, by decide +kernel⟩, by decide⟩
abbrev mL_isWhole : MI := (yL_isWhole, cL_isWhole, 14, (some .boolean), [])
theorem w5_199 : Cond.code yL_isWhole cL_isWhole 14 (some .boolean) ∈ AL := AL_in (T5 (List.mem_of_getElem? (i := 199) rfl)) rfl
theorem YL_isWhole : YL mL_isWhole 4 := ⟨rfl, w5_199, w1_0, ⟨by decide, by decide, by decide +kernel⟩, by decide⟩
abbrev mL_isKept : MI := (yL_isKept, cL_isKept, 6, (some .boolean), [])
theorem w6_130 : Cond.code yL_isKept cL_isKept 6 (some .boolean) ∈ AL := AL_in (T6 (List.mem_of_getElem? (i := 130) rfl)) rfl
theorem YL_isKept : YL mL_isKept 3 := ⟨rfl, w6_130, w1_0, ⟨by decide, by decide, by decide +kernel⟩, by decide⟩
theorem w1_35 : Cond.methodLink RL 188 yX8_init ∈ AL := AL_in (T1 (List.mem_of_getElem? (i := 35) rfl)) rfl
theorem w1_36 : Cond.instanceMethod yX8_init ∈ AL := AL_in (T1 (List.mem_of_getElem? (i := 36) rfl)) rfl
theorem kL_188 : Cond.methodLink RL 188 yX8_init ∈ AL ∧ Cond.instanceMethod yX8_init ∈ AL := ⟨w1_35, w1_36⟩
theorem w1_38 : Cond.methodLink RX8 3 Lib.objectInit ∈ AL := AL_in (T1 (List.mem_of_getElem? (i := 38) rfl)) rfl
theorem w1_39 : Cond.instanceMethod Lib.objectInit ∈ AL := AL_in (T1 (List.mem_of_getElem? (i := 39) rfl)) rfl
theorem w1_40 : Cond.code Lib.objectInit ⟨#[0xb1]⟩ 1 none ∈ AL := AL_in (T1 (List.mem_of_getElem? (i := 40) rfl)) rfl
theorem kX8_3 : Cond.methodLink RX8 3 Lib.objectInit ∈ AL ∧ Cond.instanceMethod Lib.objectInit ∈ AL ∧ Cond.code Lib.objectInit ⟨#[0xb1]⟩ 1 none ∈ AL := ⟨w1_38, w1_39, w1_40⟩
theorem w1_46 : Cond.methodLink RX4 3 Lib.objectInit ∈ AL := AL_in (T1 (List.mem_of_getElem? (i := 46) rfl)) rfl
theorem kX4_3 : Cond.methodLink RX4 3 Lib.objectInit ∈ AL ∧ Cond.instanceMethod Lib.objectInit ∈ AL ∧ Cond.code Lib.objectInit ⟨#[0xb1]⟩ 1 none ∈ AL := ⟨w1_46, w1_39, w1_40⟩
theorem w1_124 : Cond.methodLink RX8 24 yX3_init ∈ AL := AL_in (T1 (List.mem_of_getElem? (i := 124) rfl)) rfl
theorem w1_125 : Cond.instanceMethod yX3_init ∈ AL := AL_in (T1 (List.mem_of_getElem? (i := 125) rfl)) rfl
theorem kX8_24 : Cond.methodLink RX8 24 yX3_init ∈ AL ∧ Cond.instanceMethod yX3_init ∈ AL := ⟨w1_124, w1_125⟩
theorem w1_127 : Cond.methodLink RX3 3 Lib.objectInit ∈ AL := AL_in (T1 (List.mem_of_getElem? (i := 127) rfl)) rfl
theorem kX3_3 : Cond.methodLink RX3 3 Lib.objectInit ∈ AL ∧ Cond.instanceMethod Lib.objectInit ∈ AL ∧ Cond.code Lib.objectInit ⟨#[0xb1]⟩ 1 none ∈ AL := ⟨w1_127, w1_39, w1_40⟩
theorem w1_147 : Cond.methodLink RX6 3 Lib.objectInit ∈ AL := AL_in (T1 (List.mem_of_getElem? (i := 147) rfl)) rfl
theorem kX6_3 : Cond.methodLink RX6 3 Lib.objectInit ∈ AL ∧ Cond.instanceMethod Lib.objectInit ∈ AL ∧ Cond.code Lib.objectInit ⟨#[0xb1]⟩ 1 none ∈ AL := ⟨w1_147, w1_39, w1_40⟩
theorem w1_166 : Cond.methodLink RX7 3 Lib.objectInit ∈ AL := AL_in (T1 (List.mem_of_getElem? (i := 166) rfl)) rfl
theorem kX7_3 : Cond.methodLink RX7 3 Lib.objectInit ∈ AL ∧ Cond.instanceMethod Lib.objectInit ∈ AL ∧ Cond.code Lib.objectInit ⟨#[0xb1]⟩ 1 none ∈ AL := ⟨w1_166, w1_39, w1_40⟩
theorem w1_184 : Cond.methodLink RX2 3 Lib.objectInit ∈ AL := AL_in (T1 (List.mem_of_getElem? (i := 184) rfl)) rfl
theorem kX2_3 : Cond.methodLink RX2 3 Lib.objectInit ∈ AL ∧ Cond.instanceMethod Lib.objectInit ∈ AL ∧ Cond.code Lib.objectInit ⟨#[0xb1]⟩ 1 none ∈ AL := ⟨w1_184, w1_39, w1_40⟩
theorem w1_219 : Cond.methodLink RX5 3 Lib.objectInit ∈ AL := AL_in (T1 (List.mem_of_getElem? (i := 219) rfl)) rfl
theorem kX5_3 : Cond.methodLink RX5 3 Lib.objectInit ∈ AL ∧ Cond.instanceMethod Lib.objectInit ∈ AL ∧ Cond.code Lib.objectInit ⟨#[0xb1]⟩ 1 none ∈ AL := ⟨w1_219, w1_39, w1_40⟩
theorem w2_21 : Cond.methodLink RL 200 yX8_trainCount ∈ AL := AL_in (T2 (List.mem_of_getElem? (i := 21) rfl)) rfl
theorem w2_22 : Cond.instanceMethod yX8_trainCount ∈ AL := AL_in (T2 (List.mem_of_getElem? (i := 22) rfl)) rfl
theorem w2_23 : Cond.selects RX8 yX8_trainCount yX8_trainCount ∈ AL := AL_in (T2 (List.mem_of_getElem? (i := 23) rfl)) rfl
theorem kL_200 : Cond.methodLink RL 200 yX8_trainCount ∈ AL ∧ Cond.instanceMethod yX8_trainCount ∈ AL ∧ Cond.selects mX8_trainCount.1.cls yX8_trainCount yX8_trainCount ∈ AL := ⟨w2_21, w2_22, w2_23⟩
theorem w2_25 : Cond.methodLink RL 208 yX8_ticks ∈ AL := AL_in (T2 (List.mem_of_getElem? (i := 25) rfl)) rfl
theorem w2_26 : Cond.instanceMethod yX8_ticks ∈ AL := AL_in (T2 (List.mem_of_getElem? (i := 26) rfl)) rfl
theorem w2_27 : Cond.selects RX8 yX8_ticks yX8_ticks ∈ AL := AL_in (T2 (List.mem_of_getElem? (i := 27) rfl)) rfl
theorem kL_208 : Cond.methodLink RL 208 yX8_ticks ∈ AL ∧ Cond.instanceMethod yX8_ticks ∈ AL ∧ Cond.selects mX8_ticks.1.cls yX8_ticks yX8_ticks ∈ AL := ⟨w2_25, w2_26, w2_27⟩
theorem w2_29 : Cond.methodLink RL 205 yX8_arrivals ∈ AL := AL_in (T2 (List.mem_of_getElem? (i := 29) rfl)) rfl
theorem w2_30 : Cond.instanceMethod yX8_arrivals ∈ AL := AL_in (T2 (List.mem_of_getElem? (i := 30) rfl)) rfl
theorem w2_31 : Cond.selects RX8 yX8_arrivals yX8_arrivals ∈ AL := AL_in (T2 (List.mem_of_getElem? (i := 31) rfl)) rfl
theorem kL_205 : Cond.methodLink RL 205 yX8_arrivals ∈ AL ∧ Cond.instanceMethod yX8_arrivals ∈ AL ∧ Cond.selects mX8_arrivals.1.cls yX8_arrivals yX8_arrivals ∈ AL := ⟨w2_29, w2_30, w2_31⟩
theorem w2_33 : Cond.methodLink RL 193 yX8_undoCount ∈ AL := AL_in (T2 (List.mem_of_getElem? (i := 33) rfl)) rfl
theorem w2_34 : Cond.instanceMethod yX8_undoCount ∈ AL := AL_in (T2 (List.mem_of_getElem? (i := 34) rfl)) rfl
theorem w2_35 : Cond.selects RX8 yX8_undoCount yX8_undoCount ∈ AL := AL_in (T2 (List.mem_of_getElem? (i := 35) rfl)) rfl
theorem kL_193 : Cond.methodLink RL 193 yX8_undoCount ∈ AL ∧ Cond.instanceMethod yX8_undoCount ∈ AL ∧ Cond.selects mX8_undoCount.1.cls yX8_undoCount yX8_undoCount ∈ AL := ⟨w2_33, w2_34, w2_35⟩
theorem w2_37 : Cond.methodLink RL 196 yL_pick ∈ AL := AL_in (T2 (List.mem_of_getElem? (i := 37) rfl)) rfl
theorem w2_38 : Cond.static yL_pick ∈ AL := AL_in (T2 (List.mem_of_getElem? (i := 38) rfl)) rfl
theorem kL_196 : Cond.methodLink RL 196 yL_pick ∈ AL ∧ Cond.static yL_pick ∈ AL := ⟨w2_37, w2_38⟩
theorem w2_40 : Cond.methodLink RL 8 yL_cell ∈ AL := AL_in (T2 (List.mem_of_getElem? (i := 40) rfl)) rfl
theorem w2_41 : Cond.static yL_cell ∈ AL := AL_in (T2 (List.mem_of_getElem? (i := 41) rfl)) rfl
theorem kL_8 : Cond.methodLink RL 8 yL_cell ∈ AL ∧ Cond.static yL_cell ∈ AL := ⟨w2_40, w2_41⟩
theorem w2_44 : Cond.methodLink RL 211 yL_goal ∈ AL := AL_in (T2 (List.mem_of_getElem? (i := 44) rfl)) rfl
theorem w2_45 : Cond.static yL_goal ∈ AL := AL_in (T2 (List.mem_of_getElem? (i := 45) rfl)) rfl
theorem kL_211 : Cond.methodLink RL 211 yL_goal ∈ AL ∧ Cond.static yL_goal ∈ AL := ⟨w2_44, w2_45⟩
theorem w2_128 : Cond.methodLink RL 112 yX8_goal ∈ AL := AL_in (T2 (List.mem_of_getElem? (i := 128) rfl)) rfl
theorem w2_129 : Cond.instanceMethod yX8_goal ∈ AL := AL_in (T2 (List.mem_of_getElem? (i := 129) rfl)) rfl
theorem w2_130 : Cond.selects RX8 yX8_goal yX8_goal ∈ AL := AL_in (T2 (List.mem_of_getElem? (i := 130) rfl)) rfl
theorem kL_112 : Cond.methodLink RL 112 yX8_goal ∈ AL ∧ Cond.instanceMethod yX8_goal ∈ AL ∧ Cond.selects mX8_goal.1.cls yX8_goal yX8_goal ∈ AL := ⟨w2_128, w2_129, w2_130⟩
theorem w2_132 : Cond.methodLink RX8 151 yX8_needTrain ∈ AL := AL_in (T2 (List.mem_of_getElem? (i := 132) rfl)) rfl
theorem w2_134 : Cond.instanceMethod yX8_needTrain ∈ AL := AL_in (T2 (List.mem_of_getElem? (i := 134) rfl)) rfl
theorem w0_1 : Cond.selects RX8 yX8_needTrain yX8_needTrain ∈ AL := AL_in (T0 (List.mem_of_getElem? (i := 1) rfl)) rfl
theorem kX8_151 : Cond.methodLink RX8 151 yX8_needTrain ∈ AL ∧ Cond.instanceMethod yX8_needTrain ∈ AL ∧ Cond.selects mX8_needTrain.1.cls yX8_needTrain yX8_needTrain ∈ AL := ⟨w2_132, w2_134, w0_1⟩
theorem w2_136 : Cond.methodLink RX8 347 yX4_isTrain ∈ AL := AL_in (T2 (List.mem_of_getElem? (i := 136) rfl)) rfl
theorem w2_137 : Cond.instanceMethod yX4_isTrain ∈ AL := AL_in (T2 (List.mem_of_getElem? (i := 137) rfl)) rfl
theorem w2_138 : Cond.selects RX4 yX4_isTrain yX4_isTrain ∈ AL := AL_in (T2 (List.mem_of_getElem? (i := 138) rfl)) rfl
theorem kX8_347 : Cond.methodLink RX8 347 yX4_isTrain ∈ AL ∧ Cond.instanceMethod yX4_isTrain ∈ AL ∧ Cond.selects mX4_isTrain.1.cls yX4_isTrain yX4_isTrain ∈ AL := ⟨w2_136, w2_137, w2_138⟩
theorem w2_153 : Cond.methodLink RX8 128 yX8_found ∈ AL := AL_in (T2 (List.mem_of_getElem? (i := 153) rfl)) rfl
theorem w2_154 : Cond.static yX8_found ∈ AL := AL_in (T2 (List.mem_of_getElem? (i := 154) rfl)) rfl
theorem kX8_128 : Cond.methodLink RX8 128 yX8_found ∈ AL ∧ Cond.static yX8_found ∈ AL := ⟨w2_153, w2_154⟩
theorem w2_172 : Cond.methodLink RL 203 yL_ticksUntilArrival ∈ AL := AL_in (T2 (List.mem_of_getElem? (i := 172) rfl)) rfl
theorem w2_173 : Cond.static yL_ticksUntilArrival ∈ AL := AL_in (T2 (List.mem_of_getElem? (i := 173) rfl)) rfl
theorem kL_203 : Cond.methodLink RL 203 yL_ticksUntilArrival ∈ AL ∧ Cond.static yL_ticksUntilArrival ∈ AL := ⟨w2_172, w2_173⟩
theorem w2_175 : Cond.methodLink RL 130 yX8_ticksUntilArrival ∈ AL := AL_in (T2 (List.mem_of_getElem? (i := 175) rfl)) rfl
theorem w2_176 : Cond.instanceMethod yX8_ticksUntilArrival ∈ AL := AL_in (T2 (List.mem_of_getElem? (i := 176) rfl)) rfl
theorem w2_177 : Cond.selects RX8 yX8_ticksUntilArrival yX8_ticksUntilArrival ∈ AL := AL_in (T2 (List.mem_of_getElem? (i := 177) rfl)) rfl
theorem kL_130 : Cond.methodLink RL 130 yX8_ticksUntilArrival ∈ AL ∧ Cond.instanceMethod yX8_ticksUntilArrival ∈ AL ∧ Cond.selects mX8_ticksUntilArrival.1.cls yX8_ticksUntilArrival yX8_ticksUntilArrival ∈ AL := ⟨w2_175, w2_176, w2_177⟩
theorem w2_180 : Cond.methodLink RX8 236 yX4_copyFrom ∈ AL := AL_in (T2 (List.mem_of_getElem? (i := 180) rfl)) rfl
theorem w2_181 : Cond.instanceMethod yX4_copyFrom ∈ AL := AL_in (T2 (List.mem_of_getElem? (i := 181) rfl)) rfl
theorem w2_182 : Cond.selects RX4 yX4_copyFrom yX4_copyFrom ∈ AL := AL_in (T2 (List.mem_of_getElem? (i := 182) rfl)) rfl
theorem kX8_236 : Cond.methodLink RX8 236 yX4_copyFrom ∈ AL ∧ Cond.instanceMethod yX4_copyFrom ∈ AL ∧ Cond.selects mX4_copyFrom.1.cls yX4_copyFrom yX4_copyFrom ∈ AL := ⟨w2_180, w2_181, w2_182⟩
theorem w2_184 : Cond.methodLink RX4 58 arraycopyName ∈ AL := AL_in (T2 (List.mem_of_getElem? (i := 184) rfl)) rfl
theorem w2_186 : Cond.native arraycopyName ∈ AL := AL_in (T2 (List.mem_of_getElem? (i := 186) rfl)) rfl
theorem w2_185 : Cond.static arraycopyName ∈ AL := AL_in (T2 (List.mem_of_getElem? (i := 185) rfl)) rfl
theorem w1_17 : Cond.initialized "java/lang/System" ∈ AL := AL_in (T1 (List.mem_of_getElem? (i := 17) rfl)) rfl
theorem kX4_58 : Cond.methodLink RX4 58 arraycopyName ∈ AL ∧ Cond.native arraycopyName ∈ AL ∧ Cond.static arraycopyName ∈ AL ∧ Cond.initialized "java/lang/System" ∈ AL := ⟨w2_184, w2_186, w2_185, w1_17⟩
theorem w2_187 : Cond.methodLink RX8 239 yX7_ticksToGoal ∈ AL := AL_in (T2 (List.mem_of_getElem? (i := 187) rfl)) rfl
theorem w2_188 : Cond.instanceMethod yX7_ticksToGoal ∈ AL := AL_in (T2 (List.mem_of_getElem? (i := 188) rfl)) rfl
theorem w2_189 : Cond.selects RX7 yX7_ticksToGoal yX7_ticksToGoal ∈ AL := AL_in (T2 (List.mem_of_getElem? (i := 189) rfl)) rfl
theorem kX8_239 : Cond.methodLink RX8 239 yX7_ticksToGoal ∈ AL ∧ Cond.instanceMethod yX7_ticksToGoal ∈ AL ∧ Cond.selects mX7_ticksToGoal.1.cls yX7_ticksToGoal yX7_ticksToGoal ∈ AL := ⟨w2_187, w2_188, w2_189⟩
theorem w2_191 : Cond.methodLink RX7 91 yX7_letPass ∈ AL := AL_in (T2 (List.mem_of_getElem? (i := 191) rfl)) rfl
theorem w2_192 : Cond.instanceMethod yX7_letPass ∈ AL := AL_in (T2 (List.mem_of_getElem? (i := 192) rfl)) rfl
theorem w2_193 : Cond.selects RX7 yX7_letPass yX7_letPass ∈ AL := AL_in (T2 (List.mem_of_getElem? (i := 193) rfl)) rfl
theorem kX7_91 : Cond.methodLink RX7 91 yX7_letPass ∈ AL ∧ Cond.instanceMethod yX7_letPass ∈ AL ∧ Cond.selects mX7_letPass.1.cls yX7_letPass yX7_letPass ∈ AL := ⟨w2_191, w2_192, w2_193⟩
theorem w2_195 : Cond.methodLink RX7 61 yX4_trainAtRank ∈ AL := AL_in (T2 (List.mem_of_getElem? (i := 195) rfl)) rfl
theorem w2_196 : Cond.instanceMethod yX4_trainAtRank ∈ AL := AL_in (T2 (List.mem_of_getElem? (i := 196) rfl)) rfl
theorem w2_197 : Cond.selects RX4 yX4_trainAtRank yX4_trainAtRank ∈ AL := AL_in (T2 (List.mem_of_getElem? (i := 197) rfl)) rfl
theorem kX7_61 : Cond.methodLink RX7 61 yX4_trainAtRank ∈ AL ∧ Cond.instanceMethod yX4_trainAtRank ∈ AL ∧ Cond.selects mX4_trainAtRank.1.cls yX4_trainAtRank yX4_trainAtRank ∈ AL := ⟨w2_195, w2_196, w2_197⟩
theorem w2_199 : Cond.methodLink RX7 65 yX7_consider ∈ AL := AL_in (T2 (List.mem_of_getElem? (i := 199) rfl)) rfl
theorem w2_201 : Cond.instanceMethod yX7_consider ∈ AL := AL_in (T2 (List.mem_of_getElem? (i := 201) rfl)) rfl
theorem w0_2 : Cond.selects RX7 yX7_consider yX7_consider ∈ AL := AL_in (T0 (List.mem_of_getElem? (i := 2) rfl)) rfl
theorem kX7_65 : Cond.methodLink RX7 65 yX7_consider ∈ AL ∧ Cond.instanceMethod yX7_consider ∈ AL ∧ Cond.selects mX7_consider.1.cls yX7_consider yX7_consider ∈ AL := ⟨w2_199, w2_201, w0_2⟩
theorem w2_203 : Cond.methodLink RX7 25 yX4_isTrain ∈ AL := AL_in (T2 (List.mem_of_getElem? (i := 203) rfl)) rfl
theorem kX7_25 : Cond.methodLink RX7 25 yX4_isTrain ∈ AL ∧ Cond.instanceMethod yX4_isTrain ∈ AL ∧ Cond.selects mX4_isTrain.1.cls yX4_isTrain yX4_isTrain ∈ AL := ⟨w2_203, w2_137, w2_138⟩
theorem w2_207 : Cond.methodLink RX7 77 yX6_nextFor ∈ AL := AL_in (T2 (List.mem_of_getElem? (i := 207) rfl)) rfl
theorem w2_208 : Cond.instanceMethod yX6_nextFor ∈ AL := AL_in (T2 (List.mem_of_getElem? (i := 208) rfl)) rfl
theorem w2_209 : Cond.selects RX6 yX6_nextFor yX6_nextFor ∈ AL := AL_in (T2 (List.mem_of_getElem? (i := 209) rfl)) rfl
theorem kX7_77 : Cond.methodLink RX7 77 yX6_nextFor ∈ AL ∧ Cond.instanceMethod yX6_nextFor ∈ AL ∧ Cond.selects mX6_nextFor.1.cls yX6_nextFor yX6_nextFor ∈ AL := ⟨w2_207, w2_208, w2_209⟩
theorem w2_211 : Cond.methodLink RX6 48 yX6_measureByNearest ∈ AL := AL_in (T2 (List.mem_of_getElem? (i := 211) rfl)) rfl
theorem w2_212 : Cond.instanceMethod yX6_measureByNearest ∈ AL := AL_in (T2 (List.mem_of_getElem? (i := 212) rfl)) rfl
theorem w2_213 : Cond.selects RX6 yX6_measureByNearest yX6_measureByNearest ∈ AL := AL_in (T2 (List.mem_of_getElem? (i := 213) rfl)) rfl
theorem kX6_48 : Cond.methodLink RX6 48 yX6_measureByNearest ∈ AL ∧ Cond.instanceMethod yX6_measureByNearest ∈ AL ∧ Cond.selects mX6_measureByNearest.1.cls yX6_measureByNearest yX6_measureByNearest ∈ AL := ⟨w2_211, w2_212, w2_213⟩
theorem w2_215 : Cond.methodLink RX6 27 yX6_nearestOpen ∈ AL := AL_in (T2 (List.mem_of_getElem? (i := 215) rfl)) rfl
theorem w2_217 : Cond.instanceMethod yX6_nearestOpen ∈ AL := AL_in (T2 (List.mem_of_getElem? (i := 217) rfl)) rfl
theorem w0_3 : Cond.selects RX6 yX6_nearestOpen yX6_nearestOpen ∈ AL := AL_in (T0 (List.mem_of_getElem? (i := 3) rfl)) rfl
theorem kX6_27 : Cond.methodLink RX6 27 yX6_nearestOpen ∈ AL ∧ Cond.instanceMethod yX6_nearestOpen ∈ AL ∧ Cond.selects mX6_nearestOpen.1.cls yX6_nearestOpen yX6_nearestOpen ∈ AL := ⟨w2_215, w2_217, w0_3⟩
theorem w2_220 : Cond.methodLink RX6 45 yX4_isJoined ∈ AL := AL_in (T2 (List.mem_of_getElem? (i := 220) rfl)) rfl
theorem w2_221 : Cond.instanceMethod yX4_isJoined ∈ AL := AL_in (T2 (List.mem_of_getElem? (i := 221) rfl)) rfl
theorem w2_222 : Cond.selects RX4 yX4_isJoined yX4_isJoined ∈ AL := AL_in (T2 (List.mem_of_getElem? (i := 222) rfl)) rfl
theorem kX6_45 : Cond.methodLink RX6 45 yX4_isJoined ∈ AL ∧ Cond.instanceMethod yX4_isJoined ∈ AL ∧ Cond.selects mX4_isJoined.1.cls yX4_isJoined yX4_isJoined ∈ AL := ⟨w2_220, w2_221, w2_222⟩
theorem w2_225 : Cond.methodLink RX7 81 yX4_letsIn ∈ AL := AL_in (T2 (List.mem_of_getElem? (i := 225) rfl)) rfl
theorem w2_226 : Cond.instanceMethod yX4_letsIn ∈ AL := AL_in (T2 (List.mem_of_getElem? (i := 226) rfl)) rfl
theorem w2_227 : Cond.selects RX4 yX4_letsIn yX4_letsIn ∈ AL := AL_in (T2 (List.mem_of_getElem? (i := 227) rfl)) rfl
theorem kX7_81 : Cond.methodLink RX7 81 yX4_letsIn ∈ AL ∧ Cond.instanceMethod yX4_letsIn ∈ AL ∧ Cond.selects mX4_letsIn.1.cls yX4_letsIn yX4_letsIn ∈ AL := ⟨w2_225, w2_226, w2_227⟩
theorem w2_229 : Cond.methodLink RX4 72 yX4_holderOf ∈ AL := AL_in (T2 (List.mem_of_getElem? (i := 229) rfl)) rfl
theorem w2_230 : Cond.instanceMethod yX4_holderOf ∈ AL := AL_in (T2 (List.mem_of_getElem? (i := 230) rfl)) rfl
theorem w2_231 : Cond.selects RX4 yX4_holderOf yX4_holderOf ∈ AL := AL_in (T2 (List.mem_of_getElem? (i := 231) rfl)) rfl
theorem kX4_72 : Cond.methodLink RX4 72 yX4_holderOf ∈ AL ∧ Cond.instanceMethod yX4_holderOf ∈ AL ∧ Cond.selects mX4_holderOf.1.cls yX4_holderOf yX4_holderOf ∈ AL := ⟨w2_229, w2_230, w2_231⟩
theorem w2_233 : Cond.methodLink RX4 68 yX4_trainAt ∈ AL := AL_in (T2 (List.mem_of_getElem? (i := 233) rfl)) rfl
theorem w2_234 : Cond.instanceMethod yX4_trainAt ∈ AL := AL_in (T2 (List.mem_of_getElem? (i := 234) rfl)) rfl
theorem w2_235 : Cond.selects RX4 yX4_trainAt yX4_trainAt ∈ AL := AL_in (T2 (List.mem_of_getElem? (i := 235) rfl)) rfl
theorem kX4_68 : Cond.methodLink RX4 68 yX4_trainAt ∈ AL ∧ Cond.instanceMethod yX4_trainAt ∈ AL ∧ Cond.selects mX4_trainAt.1.cls yX4_trainAt yX4_trainAt ∈ AL := ⟨w2_233, w2_234, w2_235⟩
theorem w2_237 : Cond.methodLink RX7 84 yX4_moveTrain ∈ AL := AL_in (T2 (List.mem_of_getElem? (i := 237) rfl)) rfl
theorem w2_238 : Cond.instanceMethod yX4_moveTrain ∈ AL := AL_in (T2 (List.mem_of_getElem? (i := 238) rfl)) rfl
theorem w2_239 : Cond.selects RX4 yX4_moveTrain yX4_moveTrain ∈ AL := AL_in (T2 (List.mem_of_getElem? (i := 239) rfl)) rfl
theorem kX7_84 : Cond.methodLink RX7 84 yX4_moveTrain ∈ AL ∧ Cond.instanceMethod yX4_moveTrain ∈ AL ∧ Cond.selects mX4_moveTrain.1.cls yX4_moveTrain yX4_moveTrain ∈ AL := ⟨w2_237, w2_238, w2_239⟩
theorem w3_1 : Cond.methodLink RL 213 yL_does ∈ AL := AL_in (T3 (List.mem_of_getElem? (i := 1) rfl)) rfl
theorem w3_2 : Cond.static yL_does ∈ AL := AL_in (T3 (List.mem_of_getElem? (i := 2) rfl)) rfl
theorem kL_213 : Cond.methodLink RL 213 yL_does ∈ AL ∧ Cond.static yL_does ∈ AL := ⟨w3_1, w3_2⟩
theorem w3_4 : Cond.methodLink RL 225 yX8_blockCount ∈ AL := AL_in (T3 (List.mem_of_getElem? (i := 4) rfl)) rfl
theorem w3_5 : Cond.instanceMethod yX8_blockCount ∈ AL := AL_in (T3 (List.mem_of_getElem? (i := 5) rfl)) rfl
theorem w3_6 : Cond.selects RX8 yX8_blockCount yX8_blockCount ∈ AL := AL_in (T3 (List.mem_of_getElem? (i := 6) rfl)) rfl
theorem kL_225 : Cond.methodLink RL 225 yX8_blockCount ∈ AL ∧ Cond.instanceMethod yX8_blockCount ∈ AL ∧ Cond.selects mX8_blockCount.1.cls yX8_blockCount yX8_blockCount ∈ AL := ⟨w3_4, w3_5, w3_6⟩
theorem w3_8 : Cond.methodLink RL 228 yL_addCushion ∈ AL := AL_in (T3 (List.mem_of_getElem? (i := 8) rfl)) rfl
theorem w3_9 : Cond.static yL_addCushion ∈ AL := AL_in (T3 (List.mem_of_getElem? (i := 9) rfl)) rfl
theorem kL_228 : Cond.methodLink RL 228 yL_addCushion ∈ AL ∧ Cond.static yL_addCushion ∈ AL := ⟨w3_8, w3_9⟩
theorem w3_13 : Cond.methodLink RL 24 yX8_addCushion ∈ AL := AL_in (T3 (List.mem_of_getElem? (i := 13) rfl)) rfl
theorem w3_14 : Cond.instanceMethod yX8_addCushion ∈ AL := AL_in (T3 (List.mem_of_getElem? (i := 14) rfl)) rfl
theorem w3_15 : Cond.selects RX8 yX8_addCushion yX8_addCushion ∈ AL := AL_in (T3 (List.mem_of_getElem? (i := 15) rfl)) rfl
theorem kL_24 : Cond.methodLink RL 24 yX8_addCushion ∈ AL ∧ Cond.instanceMethod yX8_addCushion ∈ AL ∧ Cond.selects mX8_addCushion.1.cls yX8_addCushion yX8_addCushion ∈ AL := ⟨w3_13, w3_14, w3_15⟩
theorem w3_17 : Cond.methodLink RX8 68 yX3_keep ∈ AL := AL_in (T3 (List.mem_of_getElem? (i := 17) rfl)) rfl
theorem w3_18 : Cond.instanceMethod yX3_keep ∈ AL := AL_in (T3 (List.mem_of_getElem? (i := 18) rfl)) rfl
theorem w3_19 : Cond.selects RX3 yX3_keep yX3_keep ∈ AL := AL_in (T3 (List.mem_of_getElem? (i := 19) rfl)) rfl
theorem kX8_68 : Cond.methodLink RX8 68 yX3_keep ∈ AL ∧ Cond.instanceMethod yX3_keep ∈ AL ∧ Cond.selects mX3_keep.1.cls yX3_keep yX3_keep ∈ AL := ⟨w3_17, w3_18, w3_19⟩
theorem w3_21 : Cond.methodLink RX3 25 yX4_copyFrom ∈ AL := AL_in (T3 (List.mem_of_getElem? (i := 21) rfl)) rfl
theorem kX3_25 : Cond.methodLink RX3 25 yX4_copyFrom ∈ AL ∧ Cond.instanceMethod yX4_copyFrom ∈ AL ∧ Cond.selects mX4_copyFrom.1.cls yX4_copyFrom yX4_copyFrom ∈ AL := ⟨w3_21, w2_181, w2_182⟩
theorem w3_22 : Cond.methodLink RX8 72 yX4_placeBlock ∈ AL := AL_in (T3 (List.mem_of_getElem? (i := 22) rfl)) rfl
theorem w3_23 : Cond.instanceMethod yX4_placeBlock ∈ AL := AL_in (T3 (List.mem_of_getElem? (i := 23) rfl)) rfl
theorem w3_24 : Cond.selects RX4 yX4_placeBlock yX4_placeBlock ∈ AL := AL_in (T3 (List.mem_of_getElem? (i := 24) rfl)) rfl
theorem kX8_72 : Cond.methodLink RX8 72 yX4_placeBlock ∈ AL ∧ Cond.instanceMethod yX4_placeBlock ∈ AL ∧ Cond.selects mX4_placeBlock.1.cls yX4_placeBlock yX4_placeBlock ∈ AL := ⟨w3_22, w3_23, w3_24⟩
theorem w3_26 : Cond.methodLink RX8 76 yX8_changed ∈ AL := AL_in (T3 (List.mem_of_getElem? (i := 26) rfl)) rfl
theorem w3_28 : Cond.instanceMethod yX8_changed ∈ AL := AL_in (T3 (List.mem_of_getElem? (i := 28) rfl)) rfl
theorem w0_4 : Cond.selects RX8 yX8_changed yX8_changed ∈ AL := AL_in (T0 (List.mem_of_getElem? (i := 4) rfl)) rfl
theorem kX8_76 : Cond.methodLink RX8 76 yX8_changed ∈ AL ∧ Cond.instanceMethod yX8_changed ∈ AL ∧ Cond.selects mX8_changed.1.cls yX8_changed yX8_changed ∈ AL := ⟨w3_26, w3_28, w0_4⟩
theorem w3_79 : Cond.methodLink RX8 362 yX3_confirm ∈ AL := AL_in (T3 (List.mem_of_getElem? (i := 79) rfl)) rfl
theorem w3_80 : Cond.instanceMethod yX3_confirm ∈ AL := AL_in (T3 (List.mem_of_getElem? (i := 80) rfl)) rfl
theorem w3_81 : Cond.selects RX3 yX3_confirm yX3_confirm ∈ AL := AL_in (T3 (List.mem_of_getElem? (i := 81) rfl)) rfl
theorem kX8_362 : Cond.methodLink RX8 362 yX3_confirm ∈ AL ∧ Cond.instanceMethod yX3_confirm ∈ AL ∧ Cond.selects mX3_confirm.1.cls yX3_confirm yX3_confirm ∈ AL := ⟨w3_79, w3_80, w3_81⟩
theorem w3_83 : Cond.methodLink RX3 29 yJ9_min_7cf53 ∈ AL := AL_in (T3 (List.mem_of_getElem? (i := 83) rfl)) rfl
theorem w3_84 : Cond.static yJ9_min_7cf53 ∈ AL := AL_in (T3 (List.mem_of_getElem? (i := 84) rfl)) rfl
theorem kX3_29 : Cond.methodLink RX3 29 yJ9_min_7cf53 ∈ AL ∧ Cond.static yJ9_min_7cf53 ∈ AL := ⟨w3_83, w3_84⟩
theorem w3_86 : Cond.methodLink RL 230 yL_addBlock ∈ AL := AL_in (T3 (List.mem_of_getElem? (i := 86) rfl)) rfl
theorem w3_87 : Cond.static yL_addBlock ∈ AL := AL_in (T3 (List.mem_of_getElem? (i := 87) rfl)) rfl
theorem kL_230 : Cond.methodLink RL 230 yL_addBlock ∈ AL ∧ Cond.static yL_addBlock ∈ AL := ⟨w3_86, w3_87⟩
theorem w3_89 : Cond.methodLink RL 14 yX8_addBlock ∈ AL := AL_in (T3 (List.mem_of_getElem? (i := 89) rfl)) rfl
theorem w3_90 : Cond.instanceMethod yX8_addBlock ∈ AL := AL_in (T3 (List.mem_of_getElem? (i := 90) rfl)) rfl
theorem w3_91 : Cond.selects RX8 yX8_addBlock yX8_addBlock ∈ AL := AL_in (T3 (List.mem_of_getElem? (i := 91) rfl)) rfl
theorem kL_14 : Cond.methodLink RL 14 yX8_addBlock ∈ AL ∧ Cond.instanceMethod yX8_addBlock ∈ AL ∧ Cond.selects mX8_addBlock.1.cls yX8_addBlock yX8_addBlock ∈ AL := ⟨w3_89, w3_90, w3_91⟩
theorem w3_93 : Cond.methodLink RL 232 yL_link ∈ AL := AL_in (T3 (List.mem_of_getElem? (i := 93) rfl)) rfl
theorem w3_94 : Cond.static yL_link ∈ AL := AL_in (T3 (List.mem_of_getElem? (i := 94) rfl)) rfl
theorem kL_232 : Cond.methodLink RL 232 yL_link ∈ AL ∧ Cond.static yL_link ∈ AL := ⟨w3_93, w3_94⟩
theorem w3_96 : Cond.methodLink RL 27 yX8_link ∈ AL := AL_in (T3 (List.mem_of_getElem? (i := 96) rfl)) rfl
theorem w3_97 : Cond.instanceMethod yX8_link ∈ AL := AL_in (T3 (List.mem_of_getElem? (i := 97) rfl)) rfl
theorem w3_98 : Cond.selects RX8 yX8_link yX8_link ∈ AL := AL_in (T3 (List.mem_of_getElem? (i := 98) rfl)) rfl
theorem kL_27 : Cond.methodLink RL 27 yX8_link ∈ AL ∧ Cond.instanceMethod yX8_link ∈ AL ∧ Cond.selects mX8_link.1.cls yX8_link yX8_link ∈ AL := ⟨w3_96, w3_97, w3_98⟩
theorem w3_100 : Cond.methodLink RX8 80 yX4_join ∈ AL := AL_in (T3 (List.mem_of_getElem? (i := 100) rfl)) rfl
theorem w3_101 : Cond.instanceMethod yX4_join ∈ AL := AL_in (T3 (List.mem_of_getElem? (i := 101) rfl)) rfl
theorem w3_102 : Cond.selects RX4 yX4_join yX4_join ∈ AL := AL_in (T3 (List.mem_of_getElem? (i := 102) rfl)) rfl
theorem kX8_80 : Cond.methodLink RX8 80 yX4_join ∈ AL ∧ Cond.instanceMethod yX4_join ∈ AL ∧ Cond.selects mX4_join.1.cls yX4_join yX4_join ∈ AL := ⟨w3_100, w3_101, w3_102⟩
theorem w3_104 : Cond.methodLink RX4 75 yX4_isBlock ∈ AL := AL_in (T3 (List.mem_of_getElem? (i := 104) rfl)) rfl
theorem w3_105 : Cond.instanceMethod yX4_isBlock ∈ AL := AL_in (T3 (List.mem_of_getElem? (i := 105) rfl)) rfl
theorem w3_106 : Cond.selects RX4 yX4_isBlock yX4_isBlock ∈ AL := AL_in (T3 (List.mem_of_getElem? (i := 106) rfl)) rfl
theorem kX4_75 : Cond.methodLink RX4 75 yX4_isBlock ∈ AL ∧ Cond.instanceMethod yX4_isBlock ∈ AL ∧ Cond.selects mX4_isBlock.1.cls yX4_isBlock yX4_isBlock ∈ AL := ⟨w3_104, w3_105, w3_106⟩
theorem w3_108 : Cond.methodLink RX4 79 yX4_isJoined ∈ AL := AL_in (T3 (List.mem_of_getElem? (i := 108) rfl)) rfl
theorem kX4_79 : Cond.methodLink RX4 79 yX4_isJoined ∈ AL ∧ Cond.instanceMethod yX4_isJoined ∈ AL ∧ Cond.selects mX4_isJoined.1.cls yX4_isJoined yX4_isJoined ∈ AL := ⟨w3_108, w2_221, w2_222⟩
theorem w3_109 : Cond.methodLink RX4 82 yX4_countLinks ∈ AL := AL_in (T3 (List.mem_of_getElem? (i := 109) rfl)) rfl
theorem w3_111 : Cond.instanceMethod yX4_countLinks ∈ AL := AL_in (T3 (List.mem_of_getElem? (i := 111) rfl)) rfl
theorem w0_5 : Cond.selects RX4 yX4_countLinks yX4_countLinks ∈ AL := AL_in (T0 (List.mem_of_getElem? (i := 5) rfl)) rfl
theorem kX4_82 : Cond.methodLink RX4 82 yX4_countLinks ∈ AL ∧ Cond.instanceMethod yX4_countLinks ∈ AL ∧ Cond.selects mX4_countLinks.1.cls yX4_countLinks yX4_countLinks ∈ AL := ⟨w3_109, w3_111, w0_5⟩
theorem w3_113 : Cond.methodLink RX4 86 yJ6_bitCount_0f7a4 ∈ AL := AL_in (T3 (List.mem_of_getElem? (i := 113) rfl)) rfl
theorem w3_114 : Cond.static yJ6_bitCount_0f7a4 ∈ AL := AL_in (T3 (List.mem_of_getElem? (i := 114) rfl)) rfl
theorem kX4_86 : Cond.methodLink RX4 86 yJ6_bitCount_0f7a4 ∈ AL ∧ Cond.static yJ6_bitCount_0f7a4 ∈ AL := ⟨w3_113, w3_114⟩
theorem w3_119 : Cond.methodLink RL 235 yL_unlink ∈ AL := AL_in (T3 (List.mem_of_getElem? (i := 119) rfl)) rfl
theorem w3_120 : Cond.static yL_unlink ∈ AL := AL_in (T3 (List.mem_of_getElem? (i := 120) rfl)) rfl
theorem kL_235 : Cond.methodLink RL 235 yL_unlink ∈ AL ∧ Cond.static yL_unlink ∈ AL := ⟨w3_119, w3_120⟩
theorem w3_122 : Cond.methodLink RL 33 yX8_unlink ∈ AL := AL_in (T3 (List.mem_of_getElem? (i := 122) rfl)) rfl
theorem w3_123 : Cond.instanceMethod yX8_unlink ∈ AL := AL_in (T3 (List.mem_of_getElem? (i := 123) rfl)) rfl
theorem w3_124 : Cond.selects RX8 yX8_unlink yX8_unlink ∈ AL := AL_in (T3 (List.mem_of_getElem? (i := 124) rfl)) rfl
theorem kL_33 : Cond.methodLink RL 33 yX8_unlink ∈ AL ∧ Cond.instanceMethod yX8_unlink ∈ AL ∧ Cond.selects mX8_unlink.1.cls yX8_unlink yX8_unlink ∈ AL := ⟨w3_122, w3_123, w3_124⟩
theorem w3_126 : Cond.methodLink RX8 84 yX4_separate ∈ AL := AL_in (T3 (List.mem_of_getElem? (i := 126) rfl)) rfl
theorem w3_127 : Cond.instanceMethod yX4_separate ∈ AL := AL_in (T3 (List.mem_of_getElem? (i := 127) rfl)) rfl
theorem w3_128 : Cond.selects RX4 yX4_separate yX4_separate ∈ AL := AL_in (T3 (List.mem_of_getElem? (i := 128) rfl)) rfl
theorem kX8_84 : Cond.methodLink RX8 84 yX4_separate ∈ AL ∧ Cond.instanceMethod yX4_separate ∈ AL ∧ Cond.selects mX4_separate.1.cls yX4_separate yX4_separate ∈ AL := ⟨w3_126, w3_127, w3_128⟩
theorem w3_130 : Cond.methodLink RL 237 yL_putCat ∈ AL := AL_in (T3 (List.mem_of_getElem? (i := 130) rfl)) rfl
theorem w3_131 : Cond.static yL_putCat ∈ AL := AL_in (T3 (List.mem_of_getElem? (i := 131) rfl)) rfl
theorem kL_237 : Cond.methodLink RL 237 yL_putCat ∈ AL ∧ Cond.static yL_putCat ∈ AL := ⟨w3_130, w3_131⟩
theorem w3_134 : Cond.methodLink RL 38 yX8_putCat ∈ AL := AL_in (T3 (List.mem_of_getElem? (i := 134) rfl)) rfl
theorem w3_135 : Cond.instanceMethod yX8_putCat ∈ AL := AL_in (T3 (List.mem_of_getElem? (i := 135) rfl)) rfl
theorem w3_136 : Cond.selects RX8 yX8_putCat yX8_putCat ∈ AL := AL_in (T3 (List.mem_of_getElem? (i := 136) rfl)) rfl
theorem kL_38 : Cond.methodLink RL 38 yX8_putCat ∈ AL ∧ Cond.instanceMethod yX8_putCat ∈ AL ∧ Cond.selects mX8_putCat.1.cls yX8_putCat yX8_putCat ∈ AL := ⟨w3_134, w3_135, w3_136⟩
theorem w3_138 : Cond.methodLink RX8 87 yX4_seatCat ∈ AL := AL_in (T3 (List.mem_of_getElem? (i := 138) rfl)) rfl
theorem w3_139 : Cond.instanceMethod yX4_seatCat ∈ AL := AL_in (T3 (List.mem_of_getElem? (i := 139) rfl)) rfl
theorem w3_140 : Cond.selects RX4 yX4_seatCat yX4_seatCat ∈ AL := AL_in (T3 (List.mem_of_getElem? (i := 140) rfl)) rfl
theorem kX8_87 : Cond.methodLink RX8 87 yX4_seatCat ∈ AL ∧ Cond.instanceMethod yX4_seatCat ∈ AL ∧ Cond.selects mX4_seatCat.1.cls yX4_seatCat yX4_seatCat ∈ AL := ⟨w3_138, w3_139, w3_140⟩
theorem w3_142 : Cond.methodLink RL 239 yL_addTrain ∈ AL := AL_in (T3 (List.mem_of_getElem? (i := 142) rfl)) rfl
theorem w3_143 : Cond.static yL_addTrain ∈ AL := AL_in (T3 (List.mem_of_getElem? (i := 143) rfl)) rfl
theorem kL_239 : Cond.methodLink RL 239 yL_addTrain ∈ AL ∧ Cond.static yL_addTrain ∈ AL := ⟨w3_142, w3_143⟩
theorem w3_145 : Cond.methodLink RL 85 yX8_addTrain ∈ AL := AL_in (T3 (List.mem_of_getElem? (i := 145) rfl)) rfl
theorem w3_146 : Cond.instanceMethod yX8_addTrain ∈ AL := AL_in (T3 (List.mem_of_getElem? (i := 146) rfl)) rfl
theorem w3_147 : Cond.selects RX8 yX8_addTrain yX8_addTrain ∈ AL := AL_in (T3 (List.mem_of_getElem? (i := 147) rfl)) rfl
theorem kL_85 : Cond.methodLink RL 85 yX8_addTrain ∈ AL ∧ Cond.instanceMethod yX8_addTrain ∈ AL ∧ Cond.selects mX8_addTrain.1.cls yX8_addTrain yX8_addTrain ∈ AL := ⟨w3_145, w3_146, w3_147⟩
theorem w3_149 : Cond.methodLink RX8 168 yX4_placeTrain ∈ AL := AL_in (T3 (List.mem_of_getElem? (i := 149) rfl)) rfl
theorem w3_150 : Cond.instanceMethod yX4_placeTrain ∈ AL := AL_in (T3 (List.mem_of_getElem? (i := 150) rfl)) rfl
theorem w3_151 : Cond.selects RX4 yX4_placeTrain yX4_placeTrain ∈ AL := AL_in (T3 (List.mem_of_getElem? (i := 151) rfl)) rfl
theorem kX8_168 : Cond.methodLink RX8 168 yX4_placeTrain ∈ AL ∧ Cond.instanceMethod yX4_placeTrain ∈ AL ∧ Cond.selects mX4_placeTrain.1.cls yX4_placeTrain yX4_placeTrain ∈ AL := ⟨w3_149, w3_150, w3_151⟩
theorem w3_153 : Cond.methodLink RL 241 yL_setGoal ∈ AL := AL_in (T3 (List.mem_of_getElem? (i := 153) rfl)) rfl
theorem w3_154 : Cond.static yL_setGoal ∈ AL := AL_in (T3 (List.mem_of_getElem? (i := 154) rfl)) rfl
theorem kL_241 : Cond.methodLink RL 241 yL_setGoal ∈ AL ∧ Cond.static yL_setGoal ∈ AL := ⟨w3_153, w3_154⟩
theorem w3_156 : Cond.methodLink RL 88 yX8_setGoal ∈ AL := AL_in (T3 (List.mem_of_getElem? (i := 156) rfl)) rfl
theorem w3_157 : Cond.instanceMethod yX8_setGoal ∈ AL := AL_in (T3 (List.mem_of_getElem? (i := 157) rfl)) rfl
theorem w3_158 : Cond.selects RX8 yX8_setGoal yX8_setGoal ∈ AL := AL_in (T3 (List.mem_of_getElem? (i := 158) rfl)) rfl
theorem kL_88 : Cond.methodLink RL 88 yX8_setGoal ∈ AL ∧ Cond.instanceMethod yX8_setGoal ∈ AL ∧ Cond.selects mX8_setGoal.1.cls yX8_setGoal yX8_setGoal ∈ AL := ⟨w3_156, w3_157, w3_158⟩
theorem w3_160 : Cond.methodLink RX8 171 yX7_aim ∈ AL := AL_in (T3 (List.mem_of_getElem? (i := 160) rfl)) rfl
theorem w3_161 : Cond.instanceMethod yX7_aim ∈ AL := AL_in (T3 (List.mem_of_getElem? (i := 161) rfl)) rfl
theorem w3_162 : Cond.selects RX7 yX7_aim yX7_aim ∈ AL := AL_in (T3 (List.mem_of_getElem? (i := 162) rfl)) rfl
theorem kX8_171 : Cond.methodLink RX8 171 yX7_aim ∈ AL ∧ Cond.instanceMethod yX7_aim ∈ AL ∧ Cond.selects mX7_aim.1.cls yX7_aim yX7_aim ∈ AL := ⟨w3_160, w3_161, w3_162⟩
theorem w3_164 : Cond.methodLink RX7 31 yX4_isBlock ∈ AL := AL_in (T3 (List.mem_of_getElem? (i := 164) rfl)) rfl
theorem kX7_31 : Cond.methodLink RX7 31 yX4_isBlock ∈ AL ∧ Cond.instanceMethod yX4_isBlock ∈ AL ∧ Cond.selects mX4_isBlock.1.cls yX4_isBlock yX4_isBlock ∈ AL := ⟨w3_164, w3_105, w3_106⟩
theorem w3_165 : Cond.methodLink RX7 45 yX6_measureByNearest ∈ AL := AL_in (T3 (List.mem_of_getElem? (i := 165) rfl)) rfl
theorem kX7_45 : Cond.methodLink RX7 45 yX6_measureByNearest ∈ AL ∧ Cond.instanceMethod yX6_measureByNearest ∈ AL ∧ Cond.selects mX6_measureByNearest.1.cls yX6_measureByNearest yX6_measureByNearest ∈ AL := ⟨w3_165, w2_212, w2_213⟩
theorem w3_166 : Cond.methodLink RL 243 yL_clearGoal ∈ AL := AL_in (T3 (List.mem_of_getElem? (i := 166) rfl)) rfl
theorem w3_167 : Cond.static yL_clearGoal ∈ AL := AL_in (T3 (List.mem_of_getElem? (i := 167) rfl)) rfl
theorem kL_243 : Cond.methodLink RL 243 yL_clearGoal ∈ AL ∧ Cond.static yL_clearGoal ∈ AL := ⟨w3_166, w3_167⟩
theorem w3_169 : Cond.methodLink RL 91 yX8_clearGoal ∈ AL := AL_in (T3 (List.mem_of_getElem? (i := 169) rfl)) rfl
theorem w3_170 : Cond.instanceMethod yX8_clearGoal ∈ AL := AL_in (T3 (List.mem_of_getElem? (i := 170) rfl)) rfl
theorem w3_171 : Cond.selects RX8 yX8_clearGoal yX8_clearGoal ∈ AL := AL_in (T3 (List.mem_of_getElem? (i := 171) rfl)) rfl
theorem kL_91 : Cond.methodLink RL 91 yX8_clearGoal ∈ AL ∧ Cond.instanceMethod yX8_clearGoal ∈ AL ∧ Cond.selects mX8_clearGoal.1.cls yX8_clearGoal yX8_clearGoal ∈ AL := ⟨w3_169, w3_170, w3_171⟩
theorem w3_173 : Cond.methodLink RX8 175 yX4_dropGoal ∈ AL := AL_in (T3 (List.mem_of_getElem? (i := 173) rfl)) rfl
theorem w3_174 : Cond.instanceMethod yX4_dropGoal ∈ AL := AL_in (T3 (List.mem_of_getElem? (i := 174) rfl)) rfl
theorem w3_175 : Cond.selects RX4 yX4_dropGoal yX4_dropGoal ∈ AL := AL_in (T3 (List.mem_of_getElem? (i := 175) rfl)) rfl
theorem kX8_175 : Cond.methodLink RX8 175 yX4_dropGoal ∈ AL ∧ Cond.instanceMethod yX4_dropGoal ∈ AL ∧ Cond.selects mX4_dropGoal.1.cls yX4_dropGoal yX4_dropGoal ∈ AL := ⟨w3_173, w3_174, w3_175⟩
theorem w3_177 : Cond.methodLink RX4 91 yX4_isTrain ∈ AL := AL_in (T3 (List.mem_of_getElem? (i := 177) rfl)) rfl
theorem kX4_91 : Cond.methodLink RX4 91 yX4_isTrain ∈ AL ∧ Cond.instanceMethod yX4_isTrain ∈ AL ∧ Cond.selects mX4_isTrain.1.cls yX4_isTrain yX4_isTrain ∈ AL := ⟨w3_177, w2_137, w2_138⟩
theorem w3_178 : Cond.methodLink RL 245 yL_reserve ∈ AL := AL_in (T3 (List.mem_of_getElem? (i := 178) rfl)) rfl
theorem w3_179 : Cond.static yL_reserve ∈ AL := AL_in (T3 (List.mem_of_getElem? (i := 179) rfl)) rfl
theorem kL_245 : Cond.methodLink RL 245 yL_reserve ∈ AL ∧ Cond.static yL_reserve ∈ AL := ⟨w3_178, w3_179⟩
theorem w3_181 : Cond.methodLink RL 94 yX8_reserve ∈ AL := AL_in (T3 (List.mem_of_getElem? (i := 181) rfl)) rfl
theorem w3_182 : Cond.instanceMethod yX8_reserve ∈ AL := AL_in (T3 (List.mem_of_getElem? (i := 182) rfl)) rfl
theorem w3_183 : Cond.selects RX8 yX8_reserve yX8_reserve ∈ AL := AL_in (T3 (List.mem_of_getElem? (i := 183) rfl)) rfl
theorem kL_94 : Cond.methodLink RL 94 yX8_reserve ∈ AL ∧ Cond.instanceMethod yX8_reserve ∈ AL ∧ Cond.selects mX8_reserve.1.cls yX8_reserve yX8_reserve ∈ AL := ⟨w3_181, w3_182, w3_183⟩
theorem w3_185 : Cond.methodLink RX8 178 yX4_hold ∈ AL := AL_in (T3 (List.mem_of_getElem? (i := 185) rfl)) rfl
theorem w3_186 : Cond.instanceMethod yX4_hold ∈ AL := AL_in (T3 (List.mem_of_getElem? (i := 186) rfl)) rfl
theorem w3_187 : Cond.selects RX4 yX4_hold yX4_hold ∈ AL := AL_in (T3 (List.mem_of_getElem? (i := 187) rfl)) rfl
theorem kX8_178 : Cond.methodLink RX8 178 yX4_hold ∈ AL ∧ Cond.instanceMethod yX4_hold ∈ AL ∧ Cond.selects mX4_hold.1.cls yX4_hold yX4_hold ∈ AL := ⟨w3_185, w3_186, w3_187⟩
theorem w3_189 : Cond.methodLink RX4 94 yX4_countHolds ∈ AL := AL_in (T3 (List.mem_of_getElem? (i := 189) rfl)) rfl
theorem w3_191 : Cond.instanceMethod yX4_countHolds ∈ AL := AL_in (T3 (List.mem_of_getElem? (i := 191) rfl)) rfl
theorem w0_6 : Cond.selects RX4 yX4_countHolds yX4_countHolds ∈ AL := AL_in (T0 (List.mem_of_getElem? (i := 6) rfl)) rfl
theorem kX4_94 : Cond.methodLink RX4 94 yX4_countHolds ∈ AL ∧ Cond.instanceMethod yX4_countHolds ∈ AL ∧ Cond.selects mX4_countHolds.1.cls yX4_countHolds yX4_countHolds ∈ AL := ⟨w3_189, w3_191, w0_6⟩
theorem w3_193 : Cond.methodLink RL 247 yL_cancelReservation ∈ AL := AL_in (T3 (List.mem_of_getElem? (i := 193) rfl)) rfl
theorem w3_194 : Cond.static yL_cancelReservation ∈ AL := AL_in (T3 (List.mem_of_getElem? (i := 194) rfl)) rfl
theorem kL_247 : Cond.methodLink RL 247 yL_cancelReservation ∈ AL ∧ Cond.static yL_cancelReservation ∈ AL := ⟨w3_193, w3_194⟩
theorem w3_196 : Cond.methodLink RL 97 yX8_cancelReservation ∈ AL := AL_in (T3 (List.mem_of_getElem? (i := 196) rfl)) rfl
theorem w3_197 : Cond.instanceMethod yX8_cancelReservation ∈ AL := AL_in (T3 (List.mem_of_getElem? (i := 197) rfl)) rfl
theorem w3_198 : Cond.selects RX8 yX8_cancelReservation yX8_cancelReservation ∈ AL := AL_in (T3 (List.mem_of_getElem? (i := 198) rfl)) rfl
theorem kL_97 : Cond.methodLink RL 97 yX8_cancelReservation ∈ AL ∧ Cond.instanceMethod yX8_cancelReservation ∈ AL ∧ Cond.selects mX8_cancelReservation.1.cls yX8_cancelReservation yX8_cancelReservation ∈ AL := ⟨w3_196, w3_197, w3_198⟩
theorem w3_200 : Cond.methodLink RX8 181 yX4_release ∈ AL := AL_in (T3 (List.mem_of_getElem? (i := 200) rfl)) rfl
theorem w3_201 : Cond.instanceMethod yX4_release ∈ AL := AL_in (T3 (List.mem_of_getElem? (i := 201) rfl)) rfl
theorem w3_202 : Cond.selects RX4 yX4_release yX4_release ∈ AL := AL_in (T3 (List.mem_of_getElem? (i := 202) rfl)) rfl
theorem kX8_181 : Cond.methodLink RX8 181 yX4_release ∈ AL ∧ Cond.instanceMethod yX4_release ∈ AL ∧ Cond.selects mX4_release.1.cls yX4_release yX4_release ∈ AL := ⟨w3_200, w3_201, w3_202⟩
theorem w3_204 : Cond.methodLink RL 249 yL_removeCat ∈ AL := AL_in (T3 (List.mem_of_getElem? (i := 204) rfl)) rfl
theorem w3_205 : Cond.static yL_removeCat ∈ AL := AL_in (T3 (List.mem_of_getElem? (i := 205) rfl)) rfl
theorem kL_249 : Cond.methodLink RL 249 yL_removeCat ∈ AL ∧ Cond.static yL_removeCat ∈ AL := ⟨w3_204, w3_205⟩
theorem w3_207 : Cond.methodLink RL 43 yX8_removeCat ∈ AL := AL_in (T3 (List.mem_of_getElem? (i := 207) rfl)) rfl
theorem w3_208 : Cond.instanceMethod yX8_removeCat ∈ AL := AL_in (T3 (List.mem_of_getElem? (i := 208) rfl)) rfl
theorem w3_209 : Cond.selects RX8 yX8_removeCat yX8_removeCat ∈ AL := AL_in (T3 (List.mem_of_getElem? (i := 209) rfl)) rfl
theorem kL_43 : Cond.methodLink RL 43 yX8_removeCat ∈ AL ∧ Cond.instanceMethod yX8_removeCat ∈ AL ∧ Cond.selects mX8_removeCat.1.cls yX8_removeCat yX8_removeCat ∈ AL := ⟨w3_207, w3_208, w3_209⟩
theorem w3_211 : Cond.methodLink RX8 90 yX4_liftCat ∈ AL := AL_in (T3 (List.mem_of_getElem? (i := 211) rfl)) rfl
theorem w3_212 : Cond.instanceMethod yX4_liftCat ∈ AL := AL_in (T3 (List.mem_of_getElem? (i := 212) rfl)) rfl
theorem w3_213 : Cond.selects RX4 yX4_liftCat yX4_liftCat ∈ AL := AL_in (T3 (List.mem_of_getElem? (i := 213) rfl)) rfl
theorem kX8_90 : Cond.methodLink RX8 90 yX4_liftCat ∈ AL ∧ Cond.instanceMethod yX4_liftCat ∈ AL ∧ Cond.selects mX4_liftCat.1.cls yX4_liftCat yX4_liftCat ∈ AL := ⟨w3_211, w3_212, w3_213⟩
theorem w3_215 : Cond.methodLink RL 251 yL_rescue ∈ AL := AL_in (T3 (List.mem_of_getElem? (i := 215) rfl)) rfl
theorem w3_216 : Cond.static yL_rescue ∈ AL := AL_in (T3 (List.mem_of_getElem? (i := 216) rfl)) rfl
theorem kL_251 : Cond.methodLink RL 251 yL_rescue ∈ AL ∧ Cond.static yL_rescue ∈ AL := ⟨w3_215, w3_216⟩
theorem w3_218 : Cond.methodLink RL 100 yX8_rescue ∈ AL := AL_in (T3 (List.mem_of_getElem? (i := 218) rfl)) rfl
theorem w3_219 : Cond.instanceMethod yX8_rescue ∈ AL := AL_in (T3 (List.mem_of_getElem? (i := 219) rfl)) rfl
theorem w3_220 : Cond.selects RX8 yX8_rescue yX8_rescue ∈ AL := AL_in (T3 (List.mem_of_getElem? (i := 220) rfl)) rfl
theorem kL_100 : Cond.methodLink RL 100 yX8_rescue ∈ AL ∧ Cond.instanceMethod yX8_rescue ∈ AL ∧ Cond.selects mX8_rescue.1.cls yX8_rescue yX8_rescue ∈ AL := ⟨w3_218, w3_219, w3_220⟩
theorem w3_222 : Cond.methodLink RX8 184 yX4_rerail ∈ AL := AL_in (T3 (List.mem_of_getElem? (i := 222) rfl)) rfl
theorem w3_223 : Cond.instanceMethod yX4_rerail ∈ AL := AL_in (T3 (List.mem_of_getElem? (i := 223) rfl)) rfl
theorem w3_224 : Cond.selects RX4 yX4_rerail yX4_rerail ∈ AL := AL_in (T3 (List.mem_of_getElem? (i := 224) rfl)) rfl
theorem kX8_184 : Cond.methodLink RX8 184 yX4_rerail ∈ AL ∧ Cond.instanceMethod yX4_rerail ∈ AL ∧ Cond.selects mX4_rerail.1.cls yX4_rerail yX4_rerail ∈ AL := ⟨w3_222, w3_223, w3_224⟩
theorem w3_226 : Cond.methodLink RL 253 yL_passTicks ∈ AL := AL_in (T3 (List.mem_of_getElem? (i := 226) rfl)) rfl
theorem w3_227 : Cond.static yL_passTicks ∈ AL := AL_in (T3 (List.mem_of_getElem? (i := 227) rfl)) rfl
theorem kL_253 : Cond.methodLink RL 253 yL_passTicks ∈ AL ∧ Cond.static yL_passTicks ∈ AL := ⟨w3_226, w3_227⟩
theorem w3_229 : Cond.methodLink RL 127 yX8_passTicks ∈ AL := AL_in (T3 (List.mem_of_getElem? (i := 229) rfl)) rfl
theorem w3_230 : Cond.instanceMethod yX8_passTicks ∈ AL := AL_in (T3 (List.mem_of_getElem? (i := 230) rfl)) rfl
theorem w3_231 : Cond.selects RX8 yX8_passTicks yX8_passTicks ∈ AL := AL_in (T3 (List.mem_of_getElem? (i := 231) rfl)) rfl
theorem kL_127 : Cond.methodLink RL 127 yX8_passTicks ∈ AL ∧ Cond.instanceMethod yX8_passTicks ∈ AL ∧ Cond.selects mX8_passTicks.1.cls yX8_passTicks yX8_passTicks ∈ AL := ⟨w3_229, w3_230, w3_231⟩
theorem w3_233 : Cond.methodLink RX8 220 yX7_letPass ∈ AL := AL_in (T3 (List.mem_of_getElem? (i := 233) rfl)) rfl
theorem kX8_220 : Cond.methodLink RX8 220 yX7_letPass ∈ AL ∧ Cond.instanceMethod yX7_letPass ∈ AL ∧ Cond.selects mX7_letPass.1.cls yX7_letPass yX7_letPass ∈ AL := ⟨w3_233, w2_192, w2_193⟩
theorem w3_236 : Cond.methodLink RL 257 yJ4_init_da8c8 ∈ AL := AL_in (T3 (List.mem_of_getElem? (i := 236) rfl)) rfl
theorem w3_237 : Cond.instanceMethod yJ4_init_da8c8 ∈ AL := AL_in (T3 (List.mem_of_getElem? (i := 237) rfl)) rfl
theorem kL_257 : Cond.methodLink RL 257 yJ4_init_da8c8 ∈ AL ∧ Cond.instanceMethod yJ4_init_da8c8 ∈ AL := ⟨w3_236, w3_237⟩
theorem w3_239 : Cond.methodLink RJ4 1 yJ5_init_d00df ∈ AL := AL_in (T3 (List.mem_of_getElem? (i := 239) rfl)) rfl
theorem w4_0 : Cond.instanceMethod yJ5_init_d00df ∈ AL := AL_in (T4 (List.mem_of_getElem? (i := 0) rfl)) rfl
theorem kJ4_1 : Cond.methodLink RJ4 1 yJ5_init_d00df ∈ AL ∧ Cond.instanceMethod yJ5_init_d00df ∈ AL := ⟨w3_239, w4_0⟩
theorem w4_2 : Cond.methodLink RJ5 3 Lib.objectInit ∈ AL := AL_in (T4 (List.mem_of_getElem? (i := 2) rfl)) rfl
theorem kJ5_3 : Cond.methodLink RJ5 3 Lib.objectInit ∈ AL ∧ Cond.instanceMethod Lib.objectInit ∈ AL ∧ Cond.code Lib.objectInit ⟨#[0xb1]⟩ 1 none ∈ AL := ⟨w4_2, w1_39, w1_40⟩
theorem w4_8 : Cond.methodLink RJ2 11 yJ2_newBytesLength_0f7a4 ∈ AL := AL_in (T4 (List.mem_of_getElem? (i := 8) rfl)) rfl
theorem w4_9 : Cond.static yJ2_newBytesLength_0f7a4 ∈ AL := AL_in (T4 (List.mem_of_getElem? (i := 9) rfl)) rfl
theorem kJ2_11 : Cond.methodLink RJ2 11 yJ2_newBytesLength_0f7a4 ∈ AL ∧ Cond.static yJ2_newBytesLength_0f7a4 ∈ AL := ⟨w4_8, w4_9⟩
theorem w4_37 : Cond.methodLink RJ5 100 yJ5_ensureCapacityInternal_d00df ∈ AL := AL_in (T4 (List.mem_of_getElem? (i := 37) rfl)) rfl
theorem w4_41 : Cond.methodLink RJ5 104 yJ5_newCapacity_0f7a4 ∈ AL := AL_in (T4 (List.mem_of_getElem? (i := 41) rfl)) rfl
theorem w4_45 : Cond.methodLink RJ5 114 yJ8_newLength_cabcc ∈ AL := AL_in (T4 (List.mem_of_getElem? (i := 45) rfl)) rfl
theorem w4_46 : Cond.static yJ8_newLength_cabcc ∈ AL := AL_in (T4 (List.mem_of_getElem? (i := 46) rfl)) rfl
theorem kJ5_114 : Cond.methodLink RJ5 114 yJ8_newLength_cabcc ∈ AL ∧ Cond.static yJ8_newLength_cabcc ∈ AL := ⟨w4_45, w4_46⟩
theorem w4_48 : Cond.methodLink RJ8 194 yJ9_max_7cf53 ∈ AL := AL_in (T4 (List.mem_of_getElem? (i := 48) rfl)) rfl
theorem w4_49 : Cond.static yJ9_max_7cf53 ∈ AL := AL_in (T4 (List.mem_of_getElem? (i := 49) rfl)) rfl
theorem kJ8_194 : Cond.methodLink RJ8 194 yJ9_max_7cf53 ∈ AL ∧ Cond.static yJ9_max_7cf53 ∈ AL := ⟨w4_48, w4_49⟩
theorem w4_52 : Cond.methodLink RJ8 201 yJ8_hugeLength_7cf53 ∈ AL := AL_in (T4 (List.mem_of_getElem? (i := 52) rfl)) rfl
theorem w4_53 : Cond.static yJ8_hugeLength_7cf53 ∈ AL := AL_in (T4 (List.mem_of_getElem? (i := 53) rfl)) rfl
theorem kJ8_201 : Cond.methodLink RJ8 201 yJ8_hugeLength_7cf53 ∈ AL ∧ Cond.static yJ8_hugeLength_7cf53 ∈ AL := ⟨w4_52, w4_53⟩
theorem w4_66 : Cond.methodLink RJ7 304 yJ9_min_7cf53 ∈ AL := AL_in (T4 (List.mem_of_getElem? (i := 66) rfl)) rfl
theorem kJ7_304 : Cond.methodLink RJ7 304 yJ9_min_7cf53 ∈ AL ∧ Cond.static yJ9_min_7cf53 ∈ AL := ⟨w4_66, w3_84⟩
theorem w4_67 : Cond.methodLink RJ7 150 arraycopyName ∈ AL := AL_in (T4 (List.mem_of_getElem? (i := 67) rfl)) rfl
theorem kJ7_150 : Cond.methodLink RJ7 150 arraycopyName ∈ AL ∧ Cond.native arraycopyName ∈ AL ∧ Cond.static arraycopyName ∈ AL ∧ Cond.initialized "java/lang/System" ∈ AL := ⟨w4_67, w2_186, w2_185, w1_17⟩
theorem w4_68 : Cond.methodLink RJ5 83 yJ5_isLatin1_aae02 ∈ AL := AL_in (T4 (List.mem_of_getElem? (i := 68) rfl)) rfl
theorem w4_73 : Cond.methodLink RJ5 226 yJ2_putCharsAt_cd4e5 ∈ AL := AL_in (T4 (List.mem_of_getElem? (i := 73) rfl)) rfl
theorem w4_74 : Cond.static yJ2_putCharsAt_cd4e5 ∈ AL := AL_in (T4 (List.mem_of_getElem? (i := 74) rfl)) rfl
theorem kJ5_226 : Cond.methodLink RJ5 226 yJ2_putCharsAt_cd4e5 ∈ AL ∧ Cond.static yJ2_putCharsAt_cd4e5 ∈ AL := ⟨w4_73, w4_74⟩
theorem w4_76 : Cond.methodLink RJ2 96 yJ2_checkBoundsBeginEnd_d044e ∈ AL := AL_in (T4 (List.mem_of_getElem? (i := 76) rfl)) rfl
theorem w4_77 : Cond.static yJ2_checkBoundsBeginEnd_d044e ∈ AL := AL_in (T4 (List.mem_of_getElem? (i := 77) rfl)) rfl
theorem kJ2_96 : Cond.methodLink RJ2 96 yJ2_checkBoundsBeginEnd_d044e ∈ AL ∧ Cond.static yJ2_checkBoundsBeginEnd_d044e ∈ AL := ⟨w4_76, w4_77⟩
theorem w4_79 : Cond.methodLink RJ2 48 yJ2_length_9d52b ∈ AL := AL_in (T4 (List.mem_of_getElem? (i := 79) rfl)) rfl
theorem w4_80 : Cond.static yJ2_length_9d52b ∈ AL := AL_in (T4 (List.mem_of_getElem? (i := 80) rfl)) rfl
theorem kJ2_48 : Cond.methodLink RJ2 48 yJ2_length_9d52b ∈ AL ∧ Cond.static yJ2_length_9d52b ∈ AL := ⟨w4_79, w4_80⟩
theorem w4_82 : Cond.methodLink RJ2 241 yJ0_checkBoundsBeginEnd_23922 ∈ AL := AL_in (T4 (List.mem_of_getElem? (i := 82) rfl)) rfl
theorem w4_83 : Cond.static yJ0_checkBoundsBeginEnd_23922 ∈ AL := AL_in (T4 (List.mem_of_getElem? (i := 83) rfl)) rfl
theorem kJ2_241 : Cond.methodLink RJ2 241 yJ0_checkBoundsBeginEnd_23922 ∈ AL ∧ Cond.static yJ0_checkBoundsBeginEnd_23922 ∈ AL := ⟨w4_82, w4_83⟩
theorem w4_87 : Cond.methodLink RJ0 1062 yJ3_checkFromToIndex_8c36e ∈ AL := AL_in (T4 (List.mem_of_getElem? (i := 87) rfl)) rfl
theorem w4_88 : Cond.static yJ3_checkFromToIndex_8c36e ∈ AL := AL_in (T4 (List.mem_of_getElem? (i := 88) rfl)) rfl
theorem kJ0_1062 : Cond.methodLink RJ0 1062 yJ3_checkFromToIndex_8c36e ∈ AL ∧ Cond.static yJ3_checkFromToIndex_8c36e ∈ AL := ⟨w4_87, w4_88⟩
theorem w4_90 : Cond.methodLink RJ2 111 yJ2_putChar_b72d1 ∈ AL := AL_in (T4 (List.mem_of_getElem? (i := 90) rfl)) rfl
theorem w4_91 : Cond.static yJ2_putChar_b72d1 ∈ AL := AL_in (T4 (List.mem_of_getElem? (i := 91) rfl)) rfl
theorem kJ2_111 : Cond.methodLink RJ2 111 yJ2_putChar_b72d1 ∈ AL ∧ Cond.static yJ2_putChar_b72d1 ∈ AL := ⟨w4_90, w4_91⟩
theorem w4_99 : Cond.methodLink RJ5 32 yJ0_length_8abf5 ∈ AL := AL_in (T4 (List.mem_of_getElem? (i := 99) rfl)) rfl
theorem w4_100 : Cond.instanceMethod yJ0_length_8abf5 ∈ AL := AL_in (T4 (List.mem_of_getElem? (i := 100) rfl)) rfl
theorem w4_101 : Cond.selects RJ0 yJ0_length_8abf5 yJ0_length_8abf5 ∈ AL := AL_in (T4 (List.mem_of_getElem? (i := 101) rfl)) rfl
theorem kJ5_32 : Cond.methodLink RJ5 32 yJ0_length_8abf5 ∈ AL ∧ Cond.instanceMethod yJ0_length_8abf5 ∈ AL ∧ Cond.selects mJ0_length_8abf5.1.cls yJ0_length_8abf5 yJ0_length_8abf5 ∈ AL := ⟨w4_99, w4_100, w4_101⟩
theorem w4_103 : Cond.methodLink RJ0 335 yJ0_coder_7d493 ∈ AL := AL_in (T4 (List.mem_of_getElem? (i := 103) rfl)) rfl
theorem w4_104 : Cond.instanceMethod yJ0_coder_7d493 ∈ AL := AL_in (T4 (List.mem_of_getElem? (i := 104) rfl)) rfl
theorem w4_105 : Cond.selects RJ0 yJ0_coder_7d493 yJ0_coder_7d493 ∈ AL := AL_in (T4 (List.mem_of_getElem? (i := 105) rfl)) rfl
theorem kJ0_335 : Cond.methodLink RJ0 335 yJ0_coder_7d493 ∈ AL ∧ Cond.instanceMethod yJ0_coder_7d493 ∈ AL ∧ Cond.selects mJ0_coder_7d493.1.cls yJ0_coder_7d493 yJ0_coder_7d493 ∈ AL := ⟨w4_103, w4_104, w4_105⟩
theorem w4_108 : Cond.methodLink RJ5 208 yJ5_putStringAt_47b60 ∈ AL := AL_in (T4 (List.mem_of_getElem? (i := 108) rfl)) rfl
theorem w4_112 : Cond.methodLink RJ5 397 yJ5_inflateIfNeededFor_a7421 ∈ AL := AL_in (T4 (List.mem_of_getElem? (i := 112) rfl)) rfl
theorem w4_116 : Cond.methodLink RJ5 40 yJ0_coder_7d493 ∈ AL := AL_in (T4 (List.mem_of_getElem? (i := 116) rfl)) rfl
theorem kJ5_40 : Cond.methodLink RJ5 40 yJ0_coder_7d493 ∈ AL ∧ Cond.instanceMethod yJ0_coder_7d493 ∈ AL ∧ Cond.selects mJ0_coder_7d493.1.cls yJ0_coder_7d493 yJ0_coder_7d493 ∈ AL := ⟨w4_116, w4_104, w4_105⟩
theorem w4_117 : Cond.methodLink RJ5 195 yJ5_inflate_da8c8 ∈ AL := AL_in (T4 (List.mem_of_getElem? (i := 117) rfl)) rfl
theorem w4_121 : Cond.methodLink RJ5 125 yJ1_inflate_0e8fd ∈ AL := AL_in (T4 (List.mem_of_getElem? (i := 121) rfl)) rfl
theorem w4_122 : Cond.static yJ1_inflate_0e8fd ∈ AL := AL_in (T4 (List.mem_of_getElem? (i := 122) rfl)) rfl
theorem kJ5_125 : Cond.methodLink RJ5 125 yJ1_inflate_0e8fd ∈ AL ∧ Cond.static yJ1_inflate_0e8fd ∈ AL := ⟨w4_121, w4_122⟩
theorem w4_124 : Cond.methodLink RJ1 240 yJ2_inflate_0e8fd ∈ AL := AL_in (T4 (List.mem_of_getElem? (i := 124) rfl)) rfl
theorem w4_125 : Cond.static yJ2_inflate_0e8fd ∈ AL := AL_in (T4 (List.mem_of_getElem? (i := 125) rfl)) rfl
theorem kJ1_240 : Cond.methodLink RJ1 240 yJ2_inflate_0e8fd ∈ AL ∧ Cond.static yJ2_inflate_0e8fd ∈ AL := ⟨w4_124, w4_125⟩
theorem w4_127 : Cond.methodLink RJ2 173 yJ2_checkBoundsOffCount_d044e ∈ AL := AL_in (T4 (List.mem_of_getElem? (i := 127) rfl)) rfl
theorem w4_128 : Cond.static yJ2_checkBoundsOffCount_d044e ∈ AL := AL_in (T4 (List.mem_of_getElem? (i := 128) rfl)) rfl
theorem kJ2_173 : Cond.methodLink RJ2 173 yJ2_checkBoundsOffCount_d044e ∈ AL ∧ Cond.static yJ2_checkBoundsOffCount_d044e ∈ AL := ⟨w4_127, w4_128⟩
theorem w4_130 : Cond.methodLink RJ2 419 yJ0_checkBoundsOffCount_cabcc ∈ AL := AL_in (T4 (List.mem_of_getElem? (i := 130) rfl)) rfl
theorem w4_131 : Cond.static yJ0_checkBoundsOffCount_cabcc ∈ AL := AL_in (T4 (List.mem_of_getElem? (i := 131) rfl)) rfl
theorem kJ2_419 : Cond.methodLink RJ2 419 yJ0_checkBoundsOffCount_cabcc ∈ AL ∧ Cond.static yJ0_checkBoundsOffCount_cabcc ∈ AL := ⟨w4_130, w4_131⟩
theorem w4_133 : Cond.methodLink RJ0 1065 yJ3_checkFromIndexSize_8c36e ∈ AL := AL_in (T4 (List.mem_of_getElem? (i := 133) rfl)) rfl
theorem w4_134 : Cond.static yJ3_checkFromIndexSize_8c36e ∈ AL := AL_in (T4 (List.mem_of_getElem? (i := 134) rfl)) rfl
theorem kJ0_1065 : Cond.methodLink RJ0 1065 yJ3_checkFromIndexSize_8c36e ∈ AL ∧ Cond.static yJ3_checkFromIndexSize_8c36e ∈ AL := ⟨w4_133, w4_134⟩
theorem w4_136 : Cond.methodLink RJ5 399 yJ0_getBytes_840e7 ∈ AL := AL_in (T4 (List.mem_of_getElem? (i := 136) rfl)) rfl
theorem w4_137 : Cond.instanceMethod yJ0_getBytes_840e7 ∈ AL := AL_in (T4 (List.mem_of_getElem? (i := 137) rfl)) rfl
theorem w4_138 : Cond.selects RJ0 yJ0_getBytes_840e7 yJ0_getBytes_840e7 ∈ AL := AL_in (T4 (List.mem_of_getElem? (i := 138) rfl)) rfl
theorem kJ5_399 : Cond.methodLink RJ5 399 yJ0_getBytes_840e7 ∈ AL ∧ Cond.instanceMethod yJ0_getBytes_840e7 ∈ AL ∧ Cond.selects mJ0_getBytes_840e7.1.cls yJ0_getBytes_840e7 yJ0_getBytes_840e7 ∈ AL := ⟨w4_136, w4_137, w4_138⟩
theorem w4_140 : Cond.methodLink RJ0 212 arraycopyName ∈ AL := AL_in (T4 (List.mem_of_getElem? (i := 140) rfl)) rfl
theorem kJ0_212 : Cond.methodLink RJ0 212 arraycopyName ∈ AL ∧ Cond.native arraycopyName ∈ AL ∧ Cond.static arraycopyName ∈ AL ∧ Cond.initialized "java/lang/System" ∈ AL := ⟨w4_140, w2_186, w2_185, w1_17⟩
theorem w4_141 : Cond.methodLink RJ0 106 yJ1_inflate_0e8fd ∈ AL := AL_in (T4 (List.mem_of_getElem? (i := 141) rfl)) rfl
theorem kJ0_106 : Cond.methodLink RJ0 106 yJ1_inflate_0e8fd ∈ AL ∧ Cond.static yJ1_inflate_0e8fd ∈ AL := ⟨w4_141, w4_122⟩
theorem w4_149 : Cond.methodLink RJ5 245 yJ6_stringSize_0f7a4 ∈ AL := AL_in (T4 (List.mem_of_getElem? (i := 149) rfl)) rfl
theorem w4_150 : Cond.static yJ6_stringSize_0f7a4 ∈ AL := AL_in (T4 (List.mem_of_getElem? (i := 150) rfl)) rfl
theorem kJ5_245 : Cond.methodLink RJ5 245 yJ6_stringSize_0f7a4 ∈ AL ∧ Cond.static yJ6_stringSize_0f7a4 ∈ AL := ⟨w4_149, w4_150⟩
theorem w4_152 : Cond.methodLink RJ5 248 yJ6_getChars_ba4f3 ∈ AL := AL_in (T4 (List.mem_of_getElem? (i := 152) rfl)) rfl
theorem w4_153 : Cond.static yJ6_getChars_ba4f3 ∈ AL := AL_in (T4 (List.mem_of_getElem? (i := 153) rfl)) rfl
theorem kJ5_248 : Cond.methodLink RJ5 248 yJ6_getChars_ba4f3 ∈ AL ∧ Cond.static yJ6_getChars_ba4f3 ∈ AL := ⟨w4_152, w4_153⟩
theorem w4_159 : Cond.methodLink RJ5 251 yJ2_getChars_46870 ∈ AL := AL_in (T4 (List.mem_of_getElem? (i := 159) rfl)) rfl
theorem w4_160 : Cond.static yJ2_getChars_46870 ∈ AL := AL_in (T4 (List.mem_of_getElem? (i := 160) rfl)) rfl
theorem kJ5_251 : Cond.methodLink RJ5 251 yJ2_getChars_46870 ∈ AL ∧ Cond.static yJ2_getChars_46870 ∈ AL := ⟨w4_159, w4_160⟩
theorem w4_162 : Cond.methodLink RJ2 393 yJ2_getChars_ba4f3 ∈ AL := AL_in (T4 (List.mem_of_getElem? (i := 162) rfl)) rfl
theorem w4_163 : Cond.static yJ2_getChars_ba4f3 ∈ AL := AL_in (T4 (List.mem_of_getElem? (i := 163) rfl)) rfl
theorem kJ2_393 : Cond.methodLink RJ2 393 yJ2_getChars_ba4f3 ∈ AL ∧ Cond.static yJ2_getChars_ba4f3 ∈ AL := ⟨w4_162, w4_163⟩
theorem w4_174 : Cond.methodLink RJ4 137 yJ0_init_81219 ∈ AL := AL_in (T4 (List.mem_of_getElem? (i := 174) rfl)) rfl
theorem w4_175 : Cond.instanceMethod yJ0_init_81219 ∈ AL := AL_in (T4 (List.mem_of_getElem? (i := 175) rfl)) rfl
theorem kJ4_137 : Cond.methodLink RJ4 137 yJ0_init_81219 ∈ AL ∧ Cond.instanceMethod yJ0_init_81219 ∈ AL := ⟨w4_174, w4_175⟩
theorem w4_177 : Cond.methodLink RJ0 489 yJ0_init_db425 ∈ AL := AL_in (T4 (List.mem_of_getElem? (i := 177) rfl)) rfl
theorem w4_178 : Cond.instanceMethod yJ0_init_db425 ∈ AL := AL_in (T4 (List.mem_of_getElem? (i := 178) rfl)) rfl
theorem kJ0_489 : Cond.methodLink RJ0 489 yJ0_init_db425 ∈ AL ∧ Cond.instanceMethod yJ0_init_db425 ∈ AL := ⟨w4_177, w4_178⟩
theorem w4_180 : Cond.methodLink RJ0 1 Lib.objectInit ∈ AL := AL_in (T4 (List.mem_of_getElem? (i := 180) rfl)) rfl
theorem kJ0_1 : Cond.methodLink RJ0 1 Lib.objectInit ∈ AL ∧ Cond.instanceMethod Lib.objectInit ∈ AL ∧ Cond.code Lib.objectInit ⟨#[0xb1]⟩ 1 none ∈ AL := ⟨w4_180, w1_39, w1_40⟩
theorem w4_186 : Cond.methodLink RJ0 549 yJ5_length_8abf5 ∈ AL := AL_in (T4 (List.mem_of_getElem? (i := 186) rfl)) rfl
theorem w4_192 : Cond.methodLink RJ4 343 yJ5_length_8abf5 ∈ AL := AL_in (T4 (List.mem_of_getElem? (i := 192) rfl)) rfl
theorem w4_194 : Cond.methodLink RJ0 1047 yJ5_isLatin1_aae02 ∈ AL := AL_in (T4 (List.mem_of_getElem? (i := 194) rfl)) rfl
theorem w4_201 : Cond.methodLink RJ7 343 yJ7_checkLength_df160 ∈ AL := AL_in (T4 (List.mem_of_getElem? (i := 201) rfl)) rfl
theorem w4_202 : Cond.static yJ7_checkLength_df160 ∈ AL := AL_in (T4 (List.mem_of_getElem? (i := 202) rfl)) rfl
theorem kJ7_343 : Cond.methodLink RJ7 343 yJ7_checkLength_df160 ∈ AL ∧ Cond.static yJ7_checkLength_df160 ∈ AL := ⟨w4_201, w4_202⟩
theorem w4_206 : Cond.methodLink RJ7 47 yJ4_init_da8c8 ∈ AL := AL_in (T4 (List.mem_of_getElem? (i := 206) rfl)) rfl
theorem kJ7_47 : Cond.methodLink RJ7 47 yJ4_init_da8c8 ∈ AL ∧ Cond.instanceMethod yJ4_init_da8c8 ∈ AL := ⟨w4_206, w3_237⟩
theorem w4_215 : Cond.methodLink RJ2 123 yJ2_compress_5af95 ∈ AL := AL_in (T4 (List.mem_of_getElem? (i := 215) rfl)) rfl
theorem w4_216 : Cond.static yJ2_compress_5af95 ∈ AL := AL_in (T4 (List.mem_of_getElem? (i := 216) rfl)) rfl
theorem kJ2_123 : Cond.methodLink RJ2 123 yJ2_compress_5af95 ∈ AL ∧ Cond.static yJ2_compress_5af95 ∈ AL := ⟨w4_215, w4_216⟩
theorem w4_218 : Cond.methodLink RJ2 71 yJ2_getChar_3b067 ∈ AL := AL_in (T4 (List.mem_of_getElem? (i := 218) rfl)) rfl
theorem w4_219 : Cond.static yJ2_getChar_3b067 ∈ AL := AL_in (T4 (List.mem_of_getElem? (i := 219) rfl)) rfl
theorem kJ2_71 : Cond.methodLink RJ2 71 yJ2_getChar_3b067 ∈ AL ∧ Cond.static yJ2_getChar_3b067 ∈ AL := ⟨w4_218, w4_219⟩
theorem w4_222 : Cond.methodLink RJ0 47 yJ2_coderFromArrayLen_85cad ∈ AL := AL_in (T4 (List.mem_of_getElem? (i := 222) rfl)) rfl
theorem w4_223 : Cond.static yJ2_coderFromArrayLen_85cad ∈ AL := AL_in (T4 (List.mem_of_getElem? (i := 223) rfl)) rfl
theorem kJ0_47 : Cond.methodLink RJ0 47 yJ2_coderFromArrayLen_85cad ∈ AL ∧ Cond.static yJ2_coderFromArrayLen_85cad ∈ AL := ⟨w4_222, w4_223⟩
theorem w4_236 : Cond.methodLink RL 283 yL_runs ∈ AL := AL_in (T4 (List.mem_of_getElem? (i := 236) rfl)) rfl
theorem w4_237 : Cond.static yL_runs ∈ AL := AL_in (T4 (List.mem_of_getElem? (i := 237) rfl)) rfl
theorem kL_283 : Cond.methodLink RL 283 yL_runs ∈ AL ∧ Cond.static yL_runs ∈ AL := ⟨w4_236, w4_237⟩
theorem w4_239 : Cond.methodLink RL 172 yJ0_length_8abf5 ∈ AL := AL_in (T4 (List.mem_of_getElem? (i := 239) rfl)) rfl
theorem kL_172 : Cond.methodLink RL 172 yJ0_length_8abf5 ∈ AL ∧ Cond.instanceMethod yJ0_length_8abf5 ∈ AL ∧ Cond.selects mJ0_length_8abf5.1.cls yJ0_length_8abf5 yJ0_length_8abf5 ∈ AL := ⟨w4_239, w4_100, w4_101⟩
theorem w5_0 : Cond.methodLink RL 176 yJ0_charAt_5068e ∈ AL := AL_in (T5 (List.mem_of_getElem? (i := 0) rfl)) rfl
theorem w5_1 : Cond.instanceMethod yJ0_charAt_5068e ∈ AL := AL_in (T5 (List.mem_of_getElem? (i := 1) rfl)) rfl
theorem w5_2 : Cond.selects RJ0 yJ0_charAt_5068e yJ0_charAt_5068e ∈ AL := AL_in (T5 (List.mem_of_getElem? (i := 2) rfl)) rfl
theorem kL_176 : Cond.methodLink RL 176 yJ0_charAt_5068e ∈ AL ∧ Cond.instanceMethod yJ0_charAt_5068e ∈ AL ∧ Cond.selects mJ0_charAt_5068e.1.cls yJ0_charAt_5068e yJ0_charAt_5068e ∈ AL := ⟨w5_0, w5_1, w5_2⟩
theorem w5_4 : Cond.methodLink RJ0 492 yJ0_isLatin1_aae02 ∈ AL := AL_in (T5 (List.mem_of_getElem? (i := 4) rfl)) rfl
theorem w5_5 : Cond.instanceMethod yJ0_isLatin1_aae02 ∈ AL := AL_in (T5 (List.mem_of_getElem? (i := 5) rfl)) rfl
theorem w5_6 : Cond.selects RJ0 yJ0_isLatin1_aae02 yJ0_isLatin1_aae02 ∈ AL := AL_in (T5 (List.mem_of_getElem? (i := 6) rfl)) rfl
theorem kJ0_492 : Cond.methodLink RJ0 492 yJ0_isLatin1_aae02 ∈ AL ∧ Cond.instanceMethod yJ0_isLatin1_aae02 ∈ AL ∧ Cond.selects mJ0_isLatin1_aae02.1.cls yJ0_isLatin1_aae02 yJ0_isLatin1_aae02 ∈ AL := ⟨w5_4, w5_5, w5_6⟩
theorem w5_8 : Cond.methodLink RJ0 495 yJ1_charAt_3b067 ∈ AL := AL_in (T5 (List.mem_of_getElem? (i := 8) rfl)) rfl
theorem w5_9 : Cond.static yJ1_charAt_3b067 ∈ AL := AL_in (T5 (List.mem_of_getElem? (i := 9) rfl)) rfl
theorem kJ0_495 : Cond.methodLink RJ0 495 yJ1_charAt_3b067 ∈ AL ∧ Cond.static yJ1_charAt_3b067 ∈ AL := ⟨w5_8, w5_9⟩
theorem w5_11 : Cond.methodLink RJ1 9 yJ0_checkIndex_df160 ∈ AL := AL_in (T5 (List.mem_of_getElem? (i := 11) rfl)) rfl
theorem w5_12 : Cond.static yJ0_checkIndex_df160 ∈ AL := AL_in (T5 (List.mem_of_getElem? (i := 12) rfl)) rfl
theorem kJ1_9 : Cond.methodLink RJ1 9 yJ0_checkIndex_df160 ∈ AL ∧ Cond.static yJ0_checkIndex_df160 ∈ AL := ⟨w5_11, w5_12⟩
theorem w5_14 : Cond.methodLink RJ0 1059 yJ3_checkIndex_8e157 ∈ AL := AL_in (T5 (List.mem_of_getElem? (i := 14) rfl)) rfl
theorem w5_15 : Cond.static yJ3_checkIndex_8e157 ∈ AL := AL_in (T5 (List.mem_of_getElem? (i := 15) rfl)) rfl
theorem kJ0_1059 : Cond.methodLink RJ0 1059 yJ3_checkIndex_8e157 ∈ AL ∧ Cond.static yJ3_checkIndex_8e157 ∈ AL := ⟨w5_14, w5_15⟩
theorem w5_17 : Cond.methodLink RJ0 498 yJ2_charAt_3b067 ∈ AL := AL_in (T5 (List.mem_of_getElem? (i := 17) rfl)) rfl
theorem w5_18 : Cond.static yJ2_charAt_3b067 ∈ AL := AL_in (T5 (List.mem_of_getElem? (i := 18) rfl)) rfl
theorem kJ0_498 : Cond.methodLink RJ0 498 yJ2_charAt_3b067 ∈ AL ∧ Cond.static yJ2_charAt_3b067 ∈ AL := ⟨w5_17, w5_18⟩
theorem w5_20 : Cond.methodLink RJ2 67 yJ2_checkIndex_2214a ∈ AL := AL_in (T5 (List.mem_of_getElem? (i := 20) rfl)) rfl
theorem w5_21 : Cond.static yJ2_checkIndex_2214a ∈ AL := AL_in (T5 (List.mem_of_getElem? (i := 21) rfl)) rfl
theorem kJ2_67 : Cond.methodLink RJ2 67 yJ2_checkIndex_2214a ∈ AL ∧ Cond.static yJ2_checkIndex_2214a ∈ AL := ⟨w5_20, w5_21⟩
theorem w5_23 : Cond.methodLink RJ2 414 yJ0_checkIndex_df160 ∈ AL := AL_in (T5 (List.mem_of_getElem? (i := 23) rfl)) rfl
theorem kJ2_414 : Cond.methodLink RJ2 414 yJ0_checkIndex_df160 ∈ AL ∧ Cond.static yJ0_checkIndex_df160 ∈ AL := ⟨w5_23, w5_12⟩
theorem w5_24 : Cond.methodLink RL 179 yL_feed ∈ AL := AL_in (T5 (List.mem_of_getElem? (i := 24) rfl)) rfl
theorem w5_25 : Cond.static yL_feed ∈ AL := AL_in (T5 (List.mem_of_getElem? (i := 25) rfl)) rfl
theorem kL_179 : Cond.methodLink RL 179 yL_feed ∈ AL ∧ Cond.static yL_feed ∈ AL := ⟨w5_24, w5_25⟩
theorem w5_27 : Cond.methodLink RL 152 yX8_feed ∈ AL := AL_in (T5 (List.mem_of_getElem? (i := 27) rfl)) rfl
theorem w5_28 : Cond.instanceMethod yX8_feed ∈ AL := AL_in (T5 (List.mem_of_getElem? (i := 28) rfl)) rfl
theorem w5_29 : Cond.selects RX8 yX8_feed yX8_feed ∈ AL := AL_in (T5 (List.mem_of_getElem? (i := 29) rfl)) rfl
theorem kL_152 : Cond.methodLink RL 152 yX8_feed ∈ AL ∧ Cond.instanceMethod yX8_feed ∈ AL ∧ Cond.selects mX8_feed.1.cls yX8_feed yX8_feed ∈ AL := ⟨w5_27, w5_28, w5_29⟩
theorem w5_31 : Cond.methodLink RX8 280 yX2_append ∈ AL := AL_in (T5 (List.mem_of_getElem? (i := 31) rfl)) rfl
theorem w5_32 : Cond.instanceMethod yX2_append ∈ AL := AL_in (T5 (List.mem_of_getElem? (i := 32) rfl)) rfl
theorem w5_33 : Cond.selects RX2 yX2_append yX2_append ∈ AL := AL_in (T5 (List.mem_of_getElem? (i := 33) rfl)) rfl
theorem kX8_280 : Cond.methodLink RX8 280 yX2_append ∈ AL ∧ Cond.instanceMethod yX2_append ∈ AL ∧ Cond.selects mX2_append.1.cls yX2_append yX2_append ∈ AL := ⟨w5_31, w5_32, w5_33⟩
theorem w5_36 : Cond.methodLink RL 182 yL_execute ∈ AL := AL_in (T5 (List.mem_of_getElem? (i := 36) rfl)) rfl
theorem w5_37 : Cond.static yL_execute ∈ AL := AL_in (T5 (List.mem_of_getElem? (i := 37) rfl)) rfl
theorem kL_182 : Cond.methodLink RL 182 yL_execute ∈ AL ∧ Cond.static yL_execute ∈ AL := ⟨w5_36, w5_37⟩
theorem w5_39 : Cond.methodLink RL 156 yX8_execute ∈ AL := AL_in (T5 (List.mem_of_getElem? (i := 39) rfl)) rfl
theorem w5_40 : Cond.instanceMethod yX8_execute ∈ AL := AL_in (T5 (List.mem_of_getElem? (i := 40) rfl)) rfl
theorem w5_41 : Cond.selects RX8 yX8_execute yX8_execute ∈ AL := AL_in (T5 (List.mem_of_getElem? (i := 41) rfl)) rfl
theorem kL_156 : Cond.methodLink RL 156 yX8_execute ∈ AL ∧ Cond.instanceMethod yX8_execute ∈ AL ∧ Cond.selects mX8_execute.1.cls yX8_execute yX8_execute ∈ AL := ⟨w5_39, w5_40, w5_41⟩
theorem w5_43 : Cond.methodLink RX8 290 yX2_findError ∈ AL := AL_in (T5 (List.mem_of_getElem? (i := 43) rfl)) rfl
theorem w5_44 : Cond.instanceMethod yX2_findError ∈ AL := AL_in (T5 (List.mem_of_getElem? (i := 44) rfl)) rfl
theorem w5_45 : Cond.selects RX2 yX2_findError yX2_findError ∈ AL := AL_in (T5 (List.mem_of_getElem? (i := 45) rfl)) rfl
theorem kX8_290 : Cond.methodLink RX8 290 yX2_findError ∈ AL ∧ Cond.instanceMethod yX2_findError ∈ AL ∧ Cond.selects mX2_findError.1.cls yX2_findError yX2_findError ∈ AL := ⟨w5_43, w5_44, w5_45⟩
theorem w5_47 : Cond.methodLink RX2 41 yX2_rewind ∈ AL := AL_in (T5 (List.mem_of_getElem? (i := 47) rfl)) rfl
theorem w5_48 : Cond.instanceMethod yX2_rewind ∈ AL := AL_in (T5 (List.mem_of_getElem? (i := 48) rfl)) rfl
theorem w5_49 : Cond.selects RX2 yX2_rewind yX2_rewind ∈ AL := AL_in (T5 (List.mem_of_getElem? (i := 49) rfl)) rfl
theorem kX2_41 : Cond.methodLink RX2 41 yX2_rewind ∈ AL ∧ Cond.instanceMethod yX2_rewind ∈ AL ∧ Cond.selects mX2_rewind.1.cls yX2_rewind yX2_rewind ∈ AL := ⟨w5_47, w5_48, w5_49⟩
theorem w5_51 : Cond.methodLink RX2 44 yX2_readCommand ∈ AL := AL_in (T5 (List.mem_of_getElem? (i := 51) rfl)) rfl
theorem w5_52 : Cond.instanceMethod yX2_readCommand ∈ AL := AL_in (T5 (List.mem_of_getElem? (i := 52) rfl)) rfl
theorem w5_53 : Cond.selects RX2 yX2_readCommand yX2_readCommand ∈ AL := AL_in (T5 (List.mem_of_getElem? (i := 53) rfl)) rfl
theorem kX2_44 : Cond.methodLink RX2 44 yX2_readCommand ∈ AL ∧ Cond.instanceMethod yX2_readCommand ∈ AL ∧ Cond.selects mX2_readCommand.1.cls yX2_readCommand yX2_readCommand ∈ AL := ⟨w5_51, w5_52, w5_53⟩
theorem w5_57 : Cond.methodLink RX2 56 yX2_match ∈ AL := AL_in (T5 (List.mem_of_getElem? (i := 57) rfl)) rfl
theorem w5_59 : Cond.instanceMethod yX2_match ∈ AL := AL_in (T5 (List.mem_of_getElem? (i := 59) rfl)) rfl
theorem w0_7 : Cond.selects RX2 yX2_match yX2_match ∈ AL := AL_in (T0 (List.mem_of_getElem? (i := 7) rfl)) rfl
theorem kX2_56 : Cond.methodLink RX2 56 yX2_match ∈ AL ∧ Cond.instanceMethod yX2_match ∈ AL ∧ Cond.selects mX2_match.1.cls yX2_match yX2_match ∈ AL := ⟨w5_57, w5_59, w0_7⟩
theorem w5_61 : Cond.methodLink RX2 70 yJ0_length_8abf5 ∈ AL := AL_in (T5 (List.mem_of_getElem? (i := 61) rfl)) rfl
theorem kX2_70 : Cond.methodLink RX2 70 yJ0_length_8abf5 ∈ AL ∧ Cond.instanceMethod yJ0_length_8abf5 ∈ AL ∧ Cond.selects mJ0_length_8abf5.1.cls yJ0_length_8abf5 yJ0_length_8abf5 ∈ AL := ⟨w5_61, w4_100, w4_101⟩
theorem w5_62 : Cond.methodLink RX2 76 yJ0_charAt_5068e ∈ AL := AL_in (T5 (List.mem_of_getElem? (i := 62) rfl)) rfl
theorem kX2_76 : Cond.methodLink RX2 76 yJ0_charAt_5068e ∈ AL ∧ Cond.instanceMethod yJ0_charAt_5068e ∈ AL ∧ Cond.selects mJ0_charAt_5068e.1.cls yJ0_charAt_5068e yJ0_charAt_5068e ∈ AL := ⟨w5_62, w5_1, w5_2⟩
theorem w5_63 : Cond.methodLink RX2 80 yX2_isDigit ∈ AL := AL_in (T5 (List.mem_of_getElem? (i := 63) rfl)) rfl
theorem w5_65 : Cond.instanceMethod yX2_isDigit ∈ AL := AL_in (T5 (List.mem_of_getElem? (i := 65) rfl)) rfl
theorem w0_8 : Cond.selects RX2 yX2_isDigit yX2_isDigit ∈ AL := AL_in (T0 (List.mem_of_getElem? (i := 8) rfl)) rfl
theorem kX2_80 : Cond.methodLink RX2 80 yX2_isDigit ∈ AL ∧ Cond.instanceMethod yX2_isDigit ∈ AL ∧ Cond.selects mX2_isDigit.1.cls yX2_isDigit yX2_isDigit ∈ AL := ⟨w5_63, w5_65, w0_8⟩
theorem w5_67 : Cond.methodLink RX2 83 yX2_putNumber ∈ AL := AL_in (T5 (List.mem_of_getElem? (i := 67) rfl)) rfl
theorem w5_69 : Cond.instanceMethod yX2_putNumber ∈ AL := AL_in (T5 (List.mem_of_getElem? (i := 69) rfl)) rfl
theorem w0_9 : Cond.selects RX2 yX2_putNumber yX2_putNumber ∈ AL := AL_in (T0 (List.mem_of_getElem? (i := 9) rfl)) rfl
theorem kX2_83 : Cond.methodLink RX2 83 yX2_putNumber ∈ AL ∧ Cond.instanceMethod yX2_putNumber ∈ AL ∧ Cond.selects mX2_putNumber.1.cls yX2_putNumber yX2_putNumber ∈ AL := ⟨w5_67, w5_69, w0_9⟩
theorem w5_71 : Cond.methodLink RX2 60 yX2_closeCommand ∈ AL := AL_in (T5 (List.mem_of_getElem? (i := 71) rfl)) rfl
theorem w5_73 : Cond.instanceMethod yX2_closeCommand ∈ AL := AL_in (T5 (List.mem_of_getElem? (i := 73) rfl)) rfl
theorem w0_10 : Cond.selects RX2 yX2_closeCommand yX2_closeCommand ∈ AL := AL_in (T0 (List.mem_of_getElem? (i := 10) rfl)) rfl
theorem kX2_60 : Cond.methodLink RX2 60 yX2_closeCommand ∈ AL ∧ Cond.instanceMethod yX2_closeCommand ∈ AL ∧ Cond.selects mX2_closeCommand.1.cls yX2_closeCommand yX2_closeCommand ∈ AL := ⟨w5_71, w5_73, w0_10⟩
theorem w5_75 : Cond.methodLink RX2 64 yJ9_max_7cf53 ∈ AL := AL_in (T5 (List.mem_of_getElem? (i := 75) rfl)) rfl
theorem kX2_64 : Cond.methodLink RX2 64 yJ9_max_7cf53 ∈ AL ∧ Cond.static yJ9_max_7cf53 ∈ AL := ⟨w5_75, w4_49⟩
theorem w5_76 : Cond.methodLink RX8 293 yX2_clear ∈ AL := AL_in (T5 (List.mem_of_getElem? (i := 76) rfl)) rfl
theorem w5_77 : Cond.instanceMethod yX2_clear ∈ AL := AL_in (T5 (List.mem_of_getElem? (i := 77) rfl)) rfl
theorem w5_78 : Cond.selects RX2 yX2_clear yX2_clear ∈ AL := AL_in (T5 (List.mem_of_getElem? (i := 78) rfl)) rfl
theorem kX8_293 : Cond.methodLink RX8 293 yX2_clear ∈ AL ∧ Cond.instanceMethod yX2_clear ∈ AL ∧ Cond.selects mX2_clear.1.cls yX2_clear yX2_clear ∈ AL := ⟨w5_76, w5_77, w5_78⟩
theorem w5_81 : Cond.methodLink RX8 299 yX2_rewind ∈ AL := AL_in (T5 (List.mem_of_getElem? (i := 81) rfl)) rfl
theorem kX8_299 : Cond.methodLink RX8 299 yX2_rewind ∈ AL ∧ Cond.instanceMethod yX2_rewind ∈ AL ∧ Cond.selects mX2_rewind.1.cls yX2_rewind yX2_rewind ∈ AL := ⟨w5_81, w5_48, w5_49⟩
theorem w5_82 : Cond.methodLink RX8 302 yX2_readCommand ∈ AL := AL_in (T5 (List.mem_of_getElem? (i := 82) rfl)) rfl
theorem kX8_302 : Cond.methodLink RX8 302 yX2_readCommand ∈ AL ∧ Cond.instanceMethod yX2_readCommand ∈ AL ∧ Cond.selects mX2_readCommand.1.cls yX2_readCommand yX2_readCommand ∈ AL := ⟨w5_82, w5_52, w5_53⟩
theorem w5_83 : Cond.methodLink RX8 316 yX8_perform ∈ AL := AL_in (T5 (List.mem_of_getElem? (i := 83) rfl)) rfl
theorem w5_85 : Cond.instanceMethod yX8_perform ∈ AL := AL_in (T5 (List.mem_of_getElem? (i := 85) rfl)) rfl
theorem w0_11 : Cond.selects RX8 yX8_perform yX8_perform ∈ AL := AL_in (T0 (List.mem_of_getElem? (i := 11) rfl)) rfl
theorem kX8_316 : Cond.methodLink RX8 316 yX8_perform ∈ AL ∧ Cond.instanceMethod yX8_perform ∈ AL ∧ Cond.selects mX8_perform.1.cls yX8_perform yX8_perform ∈ AL := ⟨w5_83, w5_85, w0_11⟩
theorem w5_89 : Cond.methodLink RX8 370 ⟨RX1, "ordinal", "()I"⟩ ∈ AL := AL_in (T5 (List.mem_of_getElem? (i := 89) rfl)) rfl
theorem w5_90 : Cond.sameMethod RX1 "java/lang/Enum" "ordinal" "()I" ∈ AL := AL_in (T5 (List.mem_of_getElem? (i := 90) rfl)) rfl
theorem w5_92 : Cond.selects RX1 ⟨RX1, "ordinal", "()I"⟩ yJx29ce0_ordinal_8abf5 ∈ AL := AL_in (T5 (List.mem_of_getElem? (i := 92) rfl)) rfl
theorem w5_93 : Cond.instanceMethod yJx29ce0_ordinal_8abf5 ∈ AL := AL_in (T5 (List.mem_of_getElem? (i := 93) rfl)) rfl
theorem kX8_370 : Cond.methodLink RX8 370 ⟨RX1, "ordinal", "()I"⟩ ∈ AL ∧ Cond.sameMethod RX1 mJx29ce0_ordinal_8abf5.1.cls "ordinal" "()I" ∈ AL ∧ Cond.selects RX1 ⟨RX1, "ordinal", "()I"⟩ yJx29ce0_ordinal_8abf5 ∈ AL ∧ Cond.instanceMethod yJx29ce0_ordinal_8abf5 ∈ AL := ⟨w5_89, w5_90, w5_92, w5_93⟩
theorem w5_95 : Cond.methodLink RX8 320 yX3_revert ∈ AL := AL_in (T5 (List.mem_of_getElem? (i := 95) rfl)) rfl
theorem w5_96 : Cond.instanceMethod yX3_revert ∈ AL := AL_in (T5 (List.mem_of_getElem? (i := 96) rfl)) rfl
theorem w5_97 : Cond.selects RX3 yX3_revert yX3_revert ∈ AL := AL_in (T5 (List.mem_of_getElem? (i := 97) rfl)) rfl
theorem kX8_320 : Cond.methodLink RX8 320 yX3_revert ∈ AL ∧ Cond.instanceMethod yX3_revert ∈ AL ∧ Cond.selects mX3_revert.1.cls yX3_revert yX3_revert ∈ AL := ⟨w5_95, w5_96, w5_97⟩
theorem w5_100 : Cond.methodLink RL 189 yL_sum ∈ AL := AL_in (T5 (List.mem_of_getElem? (i := 100) rfl)) rfl
theorem w5_101 : Cond.static yL_sum ∈ AL := AL_in (T5 (List.mem_of_getElem? (i := 101) rfl)) rfl
theorem kL_189 : Cond.methodLink RL 189 yL_sum ∈ AL ∧ Cond.static yL_sum ∈ AL := ⟨w5_100, w5_101⟩
theorem w5_105 : Cond.methodLink RL 291 yL_length ∈ AL := AL_in (T5 (List.mem_of_getElem? (i := 105) rfl)) rfl
theorem w5_106 : Cond.static yL_length ∈ AL := AL_in (T5 (List.mem_of_getElem? (i := 106) rfl)) rfl
theorem kL_291 : Cond.methodLink RL 291 yL_length ∈ AL ∧ Cond.static yL_length ∈ AL := ⟨w5_105, w5_106⟩
theorem w5_108 : Cond.methodLink RL 46 yX8_length ∈ AL := AL_in (T5 (List.mem_of_getElem? (i := 108) rfl)) rfl
theorem w5_109 : Cond.instanceMethod yX8_length ∈ AL := AL_in (T5 (List.mem_of_getElem? (i := 109) rfl)) rfl
theorem w5_110 : Cond.selects RX8 yX8_length yX8_length ∈ AL := AL_in (T5 (List.mem_of_getElem? (i := 110) rfl)) rfl
theorem kL_46 : Cond.methodLink RL 46 yX8_length ∈ AL ∧ Cond.instanceMethod yX8_length ∈ AL ∧ Cond.selects mX8_length.1.cls yX8_length yX8_length ∈ AL := ⟨w5_108, w5_109, w5_110⟩
theorem w5_112 : Cond.methodLink RX8 96 yX8_needBlock ∈ AL := AL_in (T5 (List.mem_of_getElem? (i := 112) rfl)) rfl
theorem w5_114 : Cond.instanceMethod yX8_needBlock ∈ AL := AL_in (T5 (List.mem_of_getElem? (i := 114) rfl)) rfl
theorem w0_12 : Cond.selects RX8 yX8_needBlock yX8_needBlock ∈ AL := AL_in (T0 (List.mem_of_getElem? (i := 12) rfl)) rfl
theorem kX8_96 : Cond.methodLink RX8 96 yX8_needBlock ∈ AL ∧ Cond.instanceMethod yX8_needBlock ∈ AL ∧ Cond.selects mX8_needBlock.1.cls yX8_needBlock yX8_needBlock ∈ AL := ⟨w5_112, w5_114, w0_12⟩
theorem w5_116 : Cond.methodLink RX8 341 yX4_isBlock ∈ AL := AL_in (T5 (List.mem_of_getElem? (i := 116) rfl)) rfl
theorem kX8_341 : Cond.methodLink RX8 341 yX4_isBlock ∈ AL ∧ Cond.instanceMethod yX4_isBlock ∈ AL ∧ Cond.selects mX4_isBlock.1.cls yX4_isBlock yX4_isBlock ∈ AL := ⟨w5_116, w3_105, w3_106⟩
theorem w5_118 : Cond.methodLink RL 293 yL_isCushion ∈ AL := AL_in (T5 (List.mem_of_getElem? (i := 118) rfl)) rfl
theorem w5_119 : Cond.static yL_isCushion ∈ AL := AL_in (T5 (List.mem_of_getElem? (i := 119) rfl)) rfl
theorem kL_293 : Cond.methodLink RL 293 yL_isCushion ∈ AL ∧ Cond.static yL_isCushion ∈ AL := ⟨w5_118, w5_119⟩
theorem w5_121 : Cond.methodLink RL 49 yX8_isCushion ∈ AL := AL_in (T5 (List.mem_of_getElem? (i := 121) rfl)) rfl
theorem w5_122 : Cond.instanceMethod yX8_isCushion ∈ AL := AL_in (T5 (List.mem_of_getElem? (i := 122) rfl)) rfl
theorem w5_123 : Cond.selects RX8 yX8_isCushion yX8_isCushion ∈ AL := AL_in (T5 (List.mem_of_getElem? (i := 123) rfl)) rfl
theorem kL_49 : Cond.methodLink RL 49 yX8_isCushion ∈ AL ∧ Cond.instanceMethod yX8_isCushion ∈ AL ∧ Cond.selects mX8_isCushion.1.cls yX8_isCushion yX8_isCushion ∈ AL := ⟨w5_121, w5_122, w5_123⟩
theorem w5_125 : Cond.methodLink RX8 107 yX8_has ∈ AL := AL_in (T5 (List.mem_of_getElem? (i := 125) rfl)) rfl
theorem w2_205 : Cond.static yX8_has ∈ AL := AL_in (T2 (List.mem_of_getElem? (i := 205) rfl)) rfl
theorem kX8_107 : Cond.methodLink RX8 107 yX8_has ∈ AL ∧ Cond.static yX8_has ∈ AL := ⟨w5_125, w2_205⟩
theorem w5_126 : Cond.methodLink RL 295 yL_signal ∈ AL := AL_in (T5 (List.mem_of_getElem? (i := 126) rfl)) rfl
theorem w5_127 : Cond.static yL_signal ∈ AL := AL_in (T5 (List.mem_of_getElem? (i := 127) rfl)) rfl
theorem kL_295 : Cond.methodLink RL 295 yL_signal ∈ AL ∧ Cond.static yL_signal ∈ AL := ⟨w5_126, w5_127⟩
theorem w5_129 : Cond.methodLink RL 69 yX8_signal ∈ AL := AL_in (T5 (List.mem_of_getElem? (i := 129) rfl)) rfl
theorem w5_130 : Cond.instanceMethod yX8_signal ∈ AL := AL_in (T5 (List.mem_of_getElem? (i := 130) rfl)) rfl
theorem w5_131 : Cond.selects RX8 yX8_signal yX8_signal ∈ AL := AL_in (T5 (List.mem_of_getElem? (i := 131) rfl)) rfl
theorem kL_69 : Cond.methodLink RL 69 yX8_signal ∈ AL ∧ Cond.instanceMethod yX8_signal ∈ AL ∧ Cond.selects mX8_signal.1.cls yX8_signal yX8_signal ∈ AL := ⟨w5_129, w5_130, w5_131⟩
theorem w5_133 : Cond.methodLink RX8 134 yX4_signalOf ∈ AL := AL_in (T5 (List.mem_of_getElem? (i := 133) rfl)) rfl
theorem w5_134 : Cond.instanceMethod yX4_signalOf ∈ AL := AL_in (T5 (List.mem_of_getElem? (i := 134) rfl)) rfl
theorem w5_135 : Cond.selects RX4 yX4_signalOf yX4_signalOf ∈ AL := AL_in (T5 (List.mem_of_getElem? (i := 135) rfl)) rfl
theorem kX8_134 : Cond.methodLink RX8 134 yX4_signalOf ∈ AL ∧ Cond.instanceMethod yX4_signalOf ∈ AL ∧ Cond.selects mX4_signalOf.1.cls yX4_signalOf yX4_signalOf ∈ AL := ⟨w5_133, w5_134, w5_135⟩
theorem w5_137 : Cond.methodLink RL 297 yL_reservedBy ∈ AL := AL_in (T5 (List.mem_of_getElem? (i := 137) rfl)) rfl
theorem w5_138 : Cond.static yL_reservedBy ∈ AL := AL_in (T5 (List.mem_of_getElem? (i := 138) rfl)) rfl
theorem kL_297 : Cond.methodLink RL 297 yL_reservedBy ∈ AL ∧ Cond.static yL_reservedBy ∈ AL := ⟨w5_137, w5_138⟩
theorem w5_140 : Cond.methodLink RL 66 yX8_reservedBy ∈ AL := AL_in (T5 (List.mem_of_getElem? (i := 140) rfl)) rfl
theorem w5_141 : Cond.instanceMethod yX8_reservedBy ∈ AL := AL_in (T5 (List.mem_of_getElem? (i := 141) rfl)) rfl
theorem w5_142 : Cond.selects RX8 yX8_reservedBy yX8_reservedBy ∈ AL := AL_in (T5 (List.mem_of_getElem? (i := 142) rfl)) rfl
theorem kL_66 : Cond.methodLink RL 66 yX8_reservedBy ∈ AL ∧ Cond.instanceMethod yX8_reservedBy ∈ AL ∧ Cond.selects mX8_reservedBy.1.cls yX8_reservedBy yX8_reservedBy ∈ AL := ⟨w5_140, w5_141, w5_142⟩
theorem w5_144 : Cond.methodLink RX8 131 yX4_holderOf ∈ AL := AL_in (T5 (List.mem_of_getElem? (i := 144) rfl)) rfl
theorem kX8_131 : Cond.methodLink RX8 131 yX4_holderOf ∈ AL ∧ Cond.instanceMethod yX4_holderOf ∈ AL ∧ Cond.selects mX4_holderOf.1.cls yX4_holderOf yX4_holderOf ∈ AL := ⟨w5_144, w2_230, w2_231⟩
theorem w5_145 : Cond.methodLink RL 299 yL_trainIn ∈ AL := AL_in (T5 (List.mem_of_getElem? (i := 145) rfl)) rfl
theorem w5_146 : Cond.static yL_trainIn ∈ AL := AL_in (T5 (List.mem_of_getElem? (i := 146) rfl)) rfl
theorem kL_299 : Cond.methodLink RL 299 yL_trainIn ∈ AL ∧ Cond.static yL_trainIn ∈ AL := ⟨w5_145, w5_146⟩
theorem w5_148 : Cond.methodLink RL 63 yX8_trainIn ∈ AL := AL_in (T5 (List.mem_of_getElem? (i := 148) rfl)) rfl
theorem w5_149 : Cond.instanceMethod yX8_trainIn ∈ AL := AL_in (T5 (List.mem_of_getElem? (i := 149) rfl)) rfl
theorem w5_150 : Cond.selects RX8 yX8_trainIn yX8_trainIn ∈ AL := AL_in (T5 (List.mem_of_getElem? (i := 150) rfl)) rfl
theorem kL_63 : Cond.methodLink RL 63 yX8_trainIn ∈ AL ∧ Cond.instanceMethod yX8_trainIn ∈ AL ∧ Cond.selects mX8_trainIn.1.cls yX8_trainIn yX8_trainIn ∈ AL := ⟨w5_148, w5_149, w5_150⟩
theorem w5_152 : Cond.methodLink RX8 125 yX4_trainAt ∈ AL := AL_in (T5 (List.mem_of_getElem? (i := 152) rfl)) rfl
theorem kX8_125 : Cond.methodLink RX8 125 yX4_trainAt ∈ AL ∧ Cond.instanceMethod yX4_trainAt ∈ AL ∧ Cond.selects mX4_trainAt.1.cls yX4_trainAt yX4_trainAt ∈ AL := ⟨w5_152, w2_234, w2_235⟩
theorem w5_153 : Cond.methodLink RL 301 yL_areLinked ∈ AL := AL_in (T5 (List.mem_of_getElem? (i := 153) rfl)) rfl
theorem w5_154 : Cond.static yL_areLinked ∈ AL := AL_in (T5 (List.mem_of_getElem? (i := 154) rfl)) rfl
theorem kL_301 : Cond.methodLink RL 301 yL_areLinked ∈ AL ∧ Cond.static yL_areLinked ∈ AL := ⟨w5_153, w5_154⟩
theorem w5_156 : Cond.methodLink RL 56 yX8_areLinked ∈ AL := AL_in (T5 (List.mem_of_getElem? (i := 156) rfl)) rfl
theorem w5_157 : Cond.instanceMethod yX8_areLinked ∈ AL := AL_in (T5 (List.mem_of_getElem? (i := 157) rfl)) rfl
theorem w5_158 : Cond.selects RX8 yX8_areLinked yX8_areLinked ∈ AL := AL_in (T5 (List.mem_of_getElem? (i := 158) rfl)) rfl
theorem kL_56 : Cond.methodLink RL 56 yX8_areLinked ∈ AL ∧ Cond.instanceMethod yX8_areLinked ∈ AL ∧ Cond.selects mX8_areLinked.1.cls yX8_areLinked yX8_areLinked ∈ AL := ⟨w5_156, w5_157, w5_158⟩
theorem w5_160 : Cond.methodLink RX8 114 yX4_isJoined ∈ AL := AL_in (T5 (List.mem_of_getElem? (i := 160) rfl)) rfl
theorem kX8_114 : Cond.methodLink RX8 114 yX4_isJoined ∈ AL ∧ Cond.instanceMethod yX4_isJoined ∈ AL ∧ Cond.selects mX4_isJoined.1.cls yX4_isJoined yX4_isJoined ∈ AL := ⟨w5_160, w2_221, w2_222⟩
theorem w5_161 : Cond.methodLink RL 303 yL_blockOf ∈ AL := AL_in (T5 (List.mem_of_getElem? (i := 161) rfl)) rfl
theorem w5_162 : Cond.static yL_blockOf ∈ AL := AL_in (T5 (List.mem_of_getElem? (i := 162) rfl)) rfl
theorem kL_303 : Cond.methodLink RL 303 yL_blockOf ∈ AL ∧ Cond.static yL_blockOf ∈ AL := ⟨w5_161, w5_162⟩
theorem w5_164 : Cond.methodLink RL 103 yX8_blockOf ∈ AL := AL_in (T5 (List.mem_of_getElem? (i := 164) rfl)) rfl
theorem w5_165 : Cond.instanceMethod yX8_blockOf ∈ AL := AL_in (T5 (List.mem_of_getElem? (i := 165) rfl)) rfl
theorem w5_166 : Cond.selects RX8 yX8_blockOf yX8_blockOf ∈ AL := AL_in (T5 (List.mem_of_getElem? (i := 166) rfl)) rfl
theorem kL_103 : Cond.methodLink RL 103 yX8_blockOf ∈ AL ∧ Cond.instanceMethod yX8_blockOf ∈ AL ∧ Cond.selects mX8_blockOf.1.cls yX8_blockOf yX8_blockOf ∈ AL := ⟨w5_164, w5_165, w5_166⟩
theorem w5_169 : Cond.methodLink RL 307 yL_priority ∈ AL := AL_in (T5 (List.mem_of_getElem? (i := 169) rfl)) rfl
theorem w5_170 : Cond.static yL_priority ∈ AL := AL_in (T5 (List.mem_of_getElem? (i := 170) rfl)) rfl
theorem kL_307 : Cond.methodLink RL 307 yL_priority ∈ AL ∧ Cond.static yL_priority ∈ AL := ⟨w5_169, w5_170⟩
theorem w5_172 : Cond.methodLink RL 106 yX8_priority ∈ AL := AL_in (T5 (List.mem_of_getElem? (i := 172) rfl)) rfl
theorem w5_173 : Cond.instanceMethod yX8_priority ∈ AL := AL_in (T5 (List.mem_of_getElem? (i := 173) rfl)) rfl
theorem w5_174 : Cond.selects RX8 yX8_priority yX8_priority ∈ AL := AL_in (T5 (List.mem_of_getElem? (i := 174) rfl)) rfl
theorem kL_106 : Cond.methodLink RL 106 yX8_priority ∈ AL ∧ Cond.instanceMethod yX8_priority ∈ AL ∧ Cond.selects mX8_priority.1.cls yX8_priority yX8_priority ∈ AL := ⟨w5_172, w5_173, w5_174⟩
theorem w5_176 : Cond.methodLink RL 309 yL_remainingTicks ∈ AL := AL_in (T5 (List.mem_of_getElem? (i := 176) rfl)) rfl
theorem w5_177 : Cond.static yL_remainingTicks ∈ AL := AL_in (T5 (List.mem_of_getElem? (i := 177) rfl)) rfl
theorem kL_309 : Cond.methodLink RL 309 yL_remainingTicks ∈ AL ∧ Cond.static yL_remainingTicks ∈ AL := ⟨w5_176, w5_177⟩
theorem w5_179 : Cond.methodLink RL 109 yX8_remainingTicks ∈ AL := AL_in (T5 (List.mem_of_getElem? (i := 179) rfl)) rfl
theorem w5_180 : Cond.instanceMethod yX8_remainingTicks ∈ AL := AL_in (T5 (List.mem_of_getElem? (i := 180) rfl)) rfl
theorem w5_181 : Cond.selects RX8 yX8_remainingTicks yX8_remainingTicks ∈ AL := AL_in (T5 (List.mem_of_getElem? (i := 181) rfl)) rfl
theorem kL_109 : Cond.methodLink RL 109 yX8_remainingTicks ∈ AL ∧ Cond.instanceMethod yX8_remainingTicks ∈ AL ∧ Cond.selects mX8_remainingTicks.1.cls yX8_remainingTicks yX8_remainingTicks ∈ AL := ⟨w5_179, w5_180, w5_181⟩
theorem w5_183 : Cond.methodLink RL 311 yL_isDerailed ∈ AL := AL_in (T5 (List.mem_of_getElem? (i := 183) rfl)) rfl
theorem w5_184 : Cond.static yL_isDerailed ∈ AL := AL_in (T5 (List.mem_of_getElem? (i := 184) rfl)) rfl
theorem kL_311 : Cond.methodLink RL 311 yL_isDerailed ∈ AL ∧ Cond.static yL_isDerailed ∈ AL := ⟨w5_183, w5_184⟩
theorem w5_186 : Cond.methodLink RL 115 yX8_isDerailed ∈ AL := AL_in (T5 (List.mem_of_getElem? (i := 186) rfl)) rfl
theorem w5_187 : Cond.instanceMethod yX8_isDerailed ∈ AL := AL_in (T5 (List.mem_of_getElem? (i := 187) rfl)) rfl
theorem w5_188 : Cond.selects RX8 yX8_isDerailed yX8_isDerailed ∈ AL := AL_in (T5 (List.mem_of_getElem? (i := 188) rfl)) rfl
theorem kL_115 : Cond.methodLink RL 115 yX8_isDerailed ∈ AL ∧ Cond.instanceMethod yX8_isDerailed ∈ AL ∧ Cond.selects mX8_isDerailed.1.cls yX8_isDerailed yX8_isDerailed ∈ AL := ⟨w5_186, w5_187, w5_188⟩
theorem w5_190 : Cond.methodLink RL 313 yL_waits ∈ AL := AL_in (T5 (List.mem_of_getElem? (i := 190) rfl)) rfl
theorem w5_191 : Cond.static yL_waits ∈ AL := AL_in (T5 (List.mem_of_getElem? (i := 191) rfl)) rfl
theorem kL_313 : Cond.methodLink RL 313 yL_waits ∈ AL ∧ Cond.static yL_waits ∈ AL := ⟨w5_190, w5_191⟩
theorem w5_193 : Cond.methodLink RL 118 yX8_waits ∈ AL := AL_in (T5 (List.mem_of_getElem? (i := 193) rfl)) rfl
theorem w5_194 : Cond.instanceMethod yX8_waits ∈ AL := AL_in (T5 (List.mem_of_getElem? (i := 194) rfl)) rfl
theorem w5_195 : Cond.selects RX8 yX8_waits yX8_waits ∈ AL := AL_in (T5 (List.mem_of_getElem? (i := 195) rfl)) rfl
theorem kL_118 : Cond.methodLink RL 118 yX8_waits ∈ AL ∧ Cond.instanceMethod yX8_waits ∈ AL ∧ Cond.selects mX8_waits.1.cls yX8_waits yX8_waits ∈ AL := ⟨w5_193, w5_194, w5_195⟩
theorem w5_197 : Cond.methodLink RL 217 yL_isWhole ∈ AL := AL_in (T5 (List.mem_of_getElem? (i := 197) rfl)) rfl
theorem w5_198 : Cond.static yL_isWhole ∈ AL := AL_in (T5 (List.mem_of_getElem? (i := 198) rfl)) rfl
theorem kL_217 : Cond.methodLink RL 217 yL_isWhole ∈ AL ∧ Cond.static yL_isWhole ∈ AL := ⟨w5_197, w5_198⟩
theorem w5_200 : Cond.methodLink RL 333 yL_hasCat ∈ AL := AL_in (T5 (List.mem_of_getElem? (i := 200) rfl)) rfl
theorem w5_201 : Cond.static yL_hasCat ∈ AL := AL_in (T5 (List.mem_of_getElem? (i := 201) rfl)) rfl
theorem kL_333 : Cond.methodLink RL 333 yL_hasCat ∈ AL ∧ Cond.static yL_hasCat ∈ AL := ⟨w5_200, w5_201⟩
theorem w5_203 : Cond.methodLink RL 53 yX8_hasCat ∈ AL := AL_in (T5 (List.mem_of_getElem? (i := 203) rfl)) rfl
theorem w5_204 : Cond.instanceMethod yX8_hasCat ∈ AL := AL_in (T5 (List.mem_of_getElem? (i := 204) rfl)) rfl
theorem w5_205 : Cond.selects RX8 yX8_hasCat yX8_hasCat ∈ AL := AL_in (T5 (List.mem_of_getElem? (i := 205) rfl)) rfl
theorem kL_53 : Cond.methodLink RL 53 yX8_hasCat ∈ AL ∧ Cond.instanceMethod yX8_hasCat ∈ AL ∧ Cond.selects mX8_hasCat.1.cls yX8_hasCat yX8_hasCat ∈ AL := ⟨w5_203, w5_204, w5_205⟩
theorem w5_207 : Cond.methodLink RL 335 yL_isTrain ∈ AL := AL_in (T5 (List.mem_of_getElem? (i := 207) rfl)) rfl
theorem w5_208 : Cond.static yL_isTrain ∈ AL := AL_in (T5 (List.mem_of_getElem? (i := 208) rfl)) rfl
theorem kL_335 : Cond.methodLink RL 335 yL_isTrain ∈ AL ∧ Cond.static yL_isTrain ∈ AL := ⟨w5_207, w5_208⟩
theorem w5_210 : Cond.methodLink RL 329 yL_nextBlock ∈ AL := AL_in (T5 (List.mem_of_getElem? (i := 210) rfl)) rfl
theorem w5_211 : Cond.static yL_nextBlock ∈ AL := AL_in (T5 (List.mem_of_getElem? (i := 211) rfl)) rfl
theorem kL_329 : Cond.methodLink RL 329 yL_nextBlock ∈ AL ∧ Cond.static yL_nextBlock ∈ AL := ⟨w5_210, w5_211⟩
theorem w5_213 : Cond.methodLink RL 79 yX8_nextBlock ∈ AL := AL_in (T5 (List.mem_of_getElem? (i := 213) rfl)) rfl
theorem w5_214 : Cond.instanceMethod yX8_nextBlock ∈ AL := AL_in (T5 (List.mem_of_getElem? (i := 214) rfl)) rfl
theorem w5_215 : Cond.selects RX8 yX8_nextBlock yX8_nextBlock ∈ AL := AL_in (T5 (List.mem_of_getElem? (i := 215) rfl)) rfl
theorem kL_79 : Cond.methodLink RL 79 yX8_nextBlock ∈ AL ∧ Cond.instanceMethod yX8_nextBlock ∈ AL ∧ Cond.selects mX8_nextBlock.1.cls yX8_nextBlock yX8_nextBlock ∈ AL := ⟨w5_213, w5_214, w5_215⟩
theorem w5_217 : Cond.methodLink RX8 154 yX6_nextFor ∈ AL := AL_in (T5 (List.mem_of_getElem? (i := 217) rfl)) rfl
theorem kX8_154 : Cond.methodLink RX8 154 yX6_nextFor ∈ AL ∧ Cond.instanceMethod yX6_nextFor ∈ AL ∧ Cond.selects mX6_nextFor.1.cls yX6_nextFor yX6_nextFor ∈ AL := ⟨w5_217, w2_208, w2_209⟩
theorem w5_218 : Cond.methodLink RL 331 yL_blockedBy ∈ AL := AL_in (T5 (List.mem_of_getElem? (i := 218) rfl)) rfl
theorem w5_219 : Cond.static yL_blockedBy ∈ AL := AL_in (T5 (List.mem_of_getElem? (i := 219) rfl)) rfl
theorem kL_331 : Cond.methodLink RL 331 yL_blockedBy ∈ AL ∧ Cond.static yL_blockedBy ∈ AL := ⟨w5_218, w5_219⟩
theorem w5_221 : Cond.methodLink RL 124 yX8_blockedBy ∈ AL := AL_in (T5 (List.mem_of_getElem? (i := 221) rfl)) rfl
theorem w5_222 : Cond.instanceMethod yX8_blockedBy ∈ AL := AL_in (T5 (List.mem_of_getElem? (i := 222) rfl)) rfl
theorem w5_223 : Cond.selects RX8 yX8_blockedBy yX8_blockedBy ∈ AL := AL_in (T5 (List.mem_of_getElem? (i := 223) rfl)) rfl
theorem kL_124 : Cond.methodLink RL 124 yX8_blockedBy ∈ AL ∧ Cond.instanceMethod yX8_blockedBy ∈ AL ∧ Cond.selects mX8_blockedBy.1.cls yX8_blockedBy yX8_blockedBy ∈ AL := ⟨w5_221, w5_222, w5_223⟩
theorem w5_225 : Cond.methodLink RX8 211 yX7_blockerOf ∈ AL := AL_in (T5 (List.mem_of_getElem? (i := 225) rfl)) rfl
theorem w5_226 : Cond.instanceMethod yX7_blockerOf ∈ AL := AL_in (T5 (List.mem_of_getElem? (i := 226) rfl)) rfl
theorem w5_227 : Cond.selects RX7 yX7_blockerOf yX7_blockerOf ∈ AL := AL_in (T5 (List.mem_of_getElem? (i := 227) rfl)) rfl
theorem kX8_211 : Cond.methodLink RX8 211 yX7_blockerOf ∈ AL ∧ Cond.instanceMethod yX7_blockerOf ∈ AL ∧ Cond.selects mX7_blockerOf.1.cls yX7_blockerOf yX7_blockerOf ∈ AL := ⟨w5_225, w5_226, w5_227⟩
theorem w5_229 : Cond.methodLink RX7 94 yX4_trainAt ∈ AL := AL_in (T5 (List.mem_of_getElem? (i := 229) rfl)) rfl
theorem kX7_94 : Cond.methodLink RX7 94 yX4_trainAt ∈ AL ∧ Cond.instanceMethod yX4_trainAt ∈ AL ∧ Cond.selects mX4_trainAt.1.cls yX4_trainAt yX4_trainAt ∈ AL := ⟨w5_229, w2_234, w2_235⟩
theorem w5_230 : Cond.methodLink RL 317 yL_distance ∈ AL := AL_in (T5 (List.mem_of_getElem? (i := 230) rfl)) rfl
theorem w5_231 : Cond.static yL_distance ∈ AL := AL_in (T5 (List.mem_of_getElem? (i := 231) rfl)) rfl
theorem kL_317 : Cond.methodLink RL 317 yL_distance ∈ AL ∧ Cond.static yL_distance ∈ AL := ⟨w5_230, w5_231⟩
theorem w5_233 : Cond.methodLink RL 73 yX8_distance ∈ AL := AL_in (T5 (List.mem_of_getElem? (i := 233) rfl)) rfl
theorem w5_234 : Cond.instanceMethod yX8_distance ∈ AL := AL_in (T5 (List.mem_of_getElem? (i := 234) rfl)) rfl
theorem w5_235 : Cond.selects RX8 yX8_distance yX8_distance ∈ AL := AL_in (T5 (List.mem_of_getElem? (i := 235) rfl)) rfl
theorem kL_73 : Cond.methodLink RL 73 yX8_distance ∈ AL ∧ Cond.instanceMethod yX8_distance ∈ AL ∧ Cond.selects mX8_distance.1.cls yX8_distance yX8_distance ∈ AL := ⟨w5_233, w5_234, w5_235⟩
theorem w5_237 : Cond.methodLink RX8 138 yX6_measureByNearest ∈ AL := AL_in (T5 (List.mem_of_getElem? (i := 237) rfl)) rfl
theorem kX8_138 : Cond.methodLink RX8 138 yX6_measureByNearest ∈ AL ∧ Cond.instanceMethod yX6_measureByNearest ∈ AL ∧ Cond.selects mX6_measureByNearest.1.cls yX6_measureByNearest yX6_measureByNearest ∈ AL := ⟨w5_237, w2_212, w2_213⟩
theorem w5_238 : Cond.methodLink RL 339 yL_trainByPriority ∈ AL := AL_in (T5 (List.mem_of_getElem? (i := 238) rfl)) rfl
theorem w5_239 : Cond.static yL_trainByPriority ∈ AL := AL_in (T5 (List.mem_of_getElem? (i := 239) rfl)) rfl
theorem kL_339 : Cond.methodLink RL 339 yL_trainByPriority ∈ AL ∧ Cond.static yL_trainByPriority ∈ AL := ⟨w5_238, w5_239⟩
theorem w6_1 : Cond.methodLink RL 121 yX8_trainByPriority ∈ AL := AL_in (T6 (List.mem_of_getElem? (i := 1) rfl)) rfl
theorem w6_2 : Cond.instanceMethod yX8_trainByPriority ∈ AL := AL_in (T6 (List.mem_of_getElem? (i := 2) rfl)) rfl
theorem w6_3 : Cond.selects RX8 yX8_trainByPriority yX8_trainByPriority ∈ AL := AL_in (T6 (List.mem_of_getElem? (i := 3) rfl)) rfl
theorem kL_121 : Cond.methodLink RL 121 yX8_trainByPriority ∈ AL ∧ Cond.instanceMethod yX8_trainByPriority ∈ AL ∧ Cond.selects mX8_trainByPriority.1.cls yX8_trainByPriority yX8_trainByPriority ∈ AL := ⟨w6_1, w6_2, w6_3⟩
theorem w6_5 : Cond.methodLink RX8 208 yX4_trainAtRank ∈ AL := AL_in (T6 (List.mem_of_getElem? (i := 5) rfl)) rfl
theorem kX8_208 : Cond.methodLink RX8 208 yX4_trainAtRank ∈ AL ∧ Cond.instanceMethod yX4_trainAtRank ∈ AL ∧ Cond.selects mX4_trainAtRank.1.cls yX4_trainAtRank yX4_trainAtRank ∈ AL := ⟨w6_5, w2_196, w2_197⟩
theorem w6_6 : Cond.methodLink RL 341 yL_meanWaits ∈ AL := AL_in (T6 (List.mem_of_getElem? (i := 6) rfl)) rfl
theorem w6_7 : Cond.static yL_meanWaits ∈ AL := AL_in (T6 (List.mem_of_getElem? (i := 7) rfl)) rfl
theorem kL_341 : Cond.methodLink RL 341 yL_meanWaits ∈ AL ∧ Cond.static yL_meanWaits ∈ AL := ⟨w6_6, w6_7⟩
theorem w6_23 : Cond.methodLink RL 133 yX8_meanWaits ∈ AL := AL_in (T6 (List.mem_of_getElem? (i := 23) rfl)) rfl
theorem w6_24 : Cond.instanceMethod yX8_meanWaits ∈ AL := AL_in (T6 (List.mem_of_getElem? (i := 24) rfl)) rfl
theorem w6_25 : Cond.selects RX8 yX8_meanWaits yX8_meanWaits ∈ AL := AL_in (T6 (List.mem_of_getElem? (i := 25) rfl)) rfl
theorem kL_133 : Cond.methodLink RL 133 yX8_meanWaits ∈ AL ∧ Cond.instanceMethod yX8_meanWaits ∈ AL ∧ Cond.selects mX8_meanWaits.1.cls yX8_meanWaits yX8_meanWaits ∈ AL := ⟨w6_23, w6_24, w6_25⟩
theorem w6_30 : Cond.methodLink RX8 247 yX4_allWaits ∈ AL := AL_in (T6 (List.mem_of_getElem? (i := 30) rfl)) rfl
theorem w6_31 : Cond.instanceMethod yX4_allWaits ∈ AL := AL_in (T6 (List.mem_of_getElem? (i := 31) rfl)) rfl
theorem w6_32 : Cond.selects RX4 yX4_allWaits yX4_allWaits ∈ AL := AL_in (T6 (List.mem_of_getElem? (i := 32) rfl)) rfl
theorem kX8_247 : Cond.methodLink RX8 247 yX4_allWaits ∈ AL ∧ Cond.instanceMethod yX4_allWaits ∈ AL ∧ Cond.selects mX4_allWaits.1.cls yX4_allWaits yX4_allWaits ∈ AL := ⟨w6_30, w6_31, w6_32⟩
theorem w6_35 : Cond.methodLink RL 344 yL_occupiedFraction ∈ AL := AL_in (T6 (List.mem_of_getElem? (i := 35) rfl)) rfl
theorem w6_36 : Cond.static yL_occupiedFraction ∈ AL := AL_in (T6 (List.mem_of_getElem? (i := 36) rfl)) rfl
theorem kL_344 : Cond.methodLink RL 344 yL_occupiedFraction ∈ AL ∧ Cond.static yL_occupiedFraction ∈ AL := ⟨w6_35, w6_36⟩
theorem w6_38 : Cond.methodLink RL 141 yX8_occupiedFraction ∈ AL := AL_in (T6 (List.mem_of_getElem? (i := 38) rfl)) rfl
theorem w6_39 : Cond.instanceMethod yX8_occupiedFraction ∈ AL := AL_in (T6 (List.mem_of_getElem? (i := 39) rfl)) rfl
theorem w6_40 : Cond.selects RX8 yX8_occupiedFraction yX8_occupiedFraction ∈ AL := AL_in (T6 (List.mem_of_getElem? (i := 40) rfl)) rfl
theorem kL_141 : Cond.methodLink RL 141 yX8_occupiedFraction ∈ AL ∧ Cond.instanceMethod yX8_occupiedFraction ∈ AL ∧ Cond.selects mX8_occupiedFraction.1.cls yX8_occupiedFraction yX8_occupiedFraction ∈ AL := ⟨w6_38, w6_39, w6_40⟩
theorem w6_44 : Cond.methodLink RL 347 yX8_deadlocked ∈ AL := AL_in (T6 (List.mem_of_getElem? (i := 44) rfl)) rfl
theorem w6_45 : Cond.instanceMethod yX8_deadlocked ∈ AL := AL_in (T6 (List.mem_of_getElem? (i := 45) rfl)) rfl
theorem w6_46 : Cond.selects RX8 yX8_deadlocked yX8_deadlocked ∈ AL := AL_in (T6 (List.mem_of_getElem? (i := 46) rfl)) rfl
theorem kL_347 : Cond.methodLink RL 347 yX8_deadlocked ∈ AL ∧ Cond.instanceMethod yX8_deadlocked ∈ AL ∧ Cond.selects mX8_deadlocked.1.cls yX8_deadlocked yX8_deadlocked ∈ AL := ⟨w6_44, w6_45, w6_46⟩
theorem w6_48 : Cond.methodLink RX8 214 yX7_stuckByFollowing ∈ AL := AL_in (T6 (List.mem_of_getElem? (i := 48) rfl)) rfl
theorem w6_49 : Cond.instanceMethod yX7_stuckByFollowing ∈ AL := AL_in (T6 (List.mem_of_getElem? (i := 49) rfl)) rfl
theorem w6_50 : Cond.selects RX7 yX7_stuckByFollowing yX7_stuckByFollowing ∈ AL := AL_in (T6 (List.mem_of_getElem? (i := 50) rfl)) rfl
theorem kX8_214 : Cond.methodLink RX8 214 yX7_stuckByFollowing ∈ AL ∧ Cond.instanceMethod yX7_stuckByFollowing ∈ AL ∧ Cond.selects mX7_stuckByFollowing.1.cls yX7_stuckByFollowing yX7_stuckByFollowing ∈ AL := ⟨w6_48, w6_49, w6_50⟩
theorem w6_52 : Cond.methodLink RX7 97 yX7_blockerOf ∈ AL := AL_in (T6 (List.mem_of_getElem? (i := 52) rfl)) rfl
theorem kX7_97 : Cond.methodLink RX7 97 yX7_blockerOf ∈ AL ∧ Cond.instanceMethod yX7_blockerOf ∈ AL ∧ Cond.selects mX7_blockerOf.1.cls yX7_blockerOf yX7_blockerOf ∈ AL := ⟨w6_52, w5_226, w5_227⟩
theorem w6_53 : Cond.methodLink RX7 100 yX7_leadsBack ∈ AL := AL_in (T6 (List.mem_of_getElem? (i := 53) rfl)) rfl
theorem w6_55 : Cond.instanceMethod yX7_leadsBack ∈ AL := AL_in (T6 (List.mem_of_getElem? (i := 55) rfl)) rfl
theorem w0_13 : Cond.selects RX7 yX7_leadsBack yX7_leadsBack ∈ AL := AL_in (T0 (List.mem_of_getElem? (i := 13) rfl)) rfl
theorem kX7_100 : Cond.methodLink RX7 100 yX7_leadsBack ∈ AL ∧ Cond.instanceMethod yX7_leadsBack ∈ AL ∧ Cond.selects mX7_leadsBack.1.cls yX7_leadsBack yX7_leadsBack ∈ AL := ⟨w6_53, w6_55, w0_13⟩
theorem w6_57 : Cond.methodLink RL 350 yX8_deadlockedByTable ∈ AL := AL_in (T6 (List.mem_of_getElem? (i := 57) rfl)) rfl
theorem w6_58 : Cond.instanceMethod yX8_deadlockedByTable ∈ AL := AL_in (T6 (List.mem_of_getElem? (i := 58) rfl)) rfl
theorem w6_59 : Cond.selects RX8 yX8_deadlockedByTable yX8_deadlockedByTable ∈ AL := AL_in (T6 (List.mem_of_getElem? (i := 59) rfl)) rfl
theorem kL_350 : Cond.methodLink RL 350 yX8_deadlockedByTable ∈ AL ∧ Cond.instanceMethod yX8_deadlockedByTable ∈ AL ∧ Cond.selects mX8_deadlockedByTable.1.cls yX8_deadlockedByTable yX8_deadlockedByTable ∈ AL := ⟨w6_57, w6_58, w6_59⟩
theorem w6_61 : Cond.methodLink RX8 217 yX7_stuckByTable ∈ AL := AL_in (T6 (List.mem_of_getElem? (i := 61) rfl)) rfl
theorem w6_62 : Cond.instanceMethod yX7_stuckByTable ∈ AL := AL_in (T6 (List.mem_of_getElem? (i := 62) rfl)) rfl
theorem w6_63 : Cond.selects RX7 yX7_stuckByTable yX7_stuckByTable ∈ AL := AL_in (T6 (List.mem_of_getElem? (i := 63) rfl)) rfl
theorem kX8_217 : Cond.methodLink RX8 217 yX7_stuckByTable ∈ AL ∧ Cond.instanceMethod yX7_stuckByTable ∈ AL ∧ Cond.selects mX7_stuckByTable.1.cls yX7_stuckByTable yX7_stuckByTable ∈ AL := ⟨w6_61, w6_62, w6_63⟩
theorem w6_65 : Cond.methodLink RL 353 yL_areWays ∈ AL := AL_in (T6 (List.mem_of_getElem? (i := 65) rfl)) rfl
theorem w6_66 : Cond.static yL_areWays ∈ AL := AL_in (T6 (List.mem_of_getElem? (i := 66) rfl)) rfl
theorem kL_353 : Cond.methodLink RL 353 yL_areWays ∈ AL ∧ Cond.static yL_areWays ∈ AL := ⟨w6_65, w6_66⟩
theorem w6_70 : Cond.methodLink RL 319 yL_distanceByRounds ∈ AL := AL_in (T6 (List.mem_of_getElem? (i := 70) rfl)) rfl
theorem w6_71 : Cond.static yL_distanceByRounds ∈ AL := AL_in (T6 (List.mem_of_getElem? (i := 71) rfl)) rfl
theorem kL_319 : Cond.methodLink RL 319 yL_distanceByRounds ∈ AL ∧ Cond.static yL_distanceByRounds ∈ AL := ⟨w6_70, w6_71⟩
theorem w6_73 : Cond.methodLink RL 76 yX8_distanceByRounds ∈ AL := AL_in (T6 (List.mem_of_getElem? (i := 73) rfl)) rfl
theorem w6_74 : Cond.instanceMethod yX8_distanceByRounds ∈ AL := AL_in (T6 (List.mem_of_getElem? (i := 74) rfl)) rfl
theorem w6_75 : Cond.selects RX8 yX8_distanceByRounds yX8_distanceByRounds ∈ AL := AL_in (T6 (List.mem_of_getElem? (i := 75) rfl)) rfl
theorem kL_76 : Cond.methodLink RL 76 yX8_distanceByRounds ∈ AL ∧ Cond.instanceMethod yX8_distanceByRounds ∈ AL ∧ Cond.selects mX8_distanceByRounds.1.cls yX8_distanceByRounds yX8_distanceByRounds ∈ AL := ⟨w6_73, w6_74, w6_75⟩
theorem w6_77 : Cond.methodLink RX8 145 yX6_measureByRounds ∈ AL := AL_in (T6 (List.mem_of_getElem? (i := 77) rfl)) rfl
theorem w6_78 : Cond.instanceMethod yX6_measureByRounds ∈ AL := AL_in (T6 (List.mem_of_getElem? (i := 78) rfl)) rfl
theorem w6_79 : Cond.selects RX6 yX6_measureByRounds yX6_measureByRounds ∈ AL := AL_in (T6 (List.mem_of_getElem? (i := 79) rfl)) rfl
theorem kX8_145 : Cond.methodLink RX8 145 yX6_measureByRounds ∈ AL ∧ Cond.instanceMethod yX6_measureByRounds ∈ AL ∧ Cond.selects mX6_measureByRounds.1.cls yX6_measureByRounds yX6_measureByRounds ∈ AL := ⟨w6_77, w6_78, w6_79⟩
theorem w6_81 : Cond.methodLink RX6 41 yX6_shortenFrom ∈ AL := AL_in (T6 (List.mem_of_getElem? (i := 81) rfl)) rfl
theorem w6_83 : Cond.instanceMethod yX6_shortenFrom ∈ AL := AL_in (T6 (List.mem_of_getElem? (i := 83) rfl)) rfl
theorem w0_14 : Cond.selects RX6 yX6_shortenFrom yX6_shortenFrom ∈ AL := AL_in (T0 (List.mem_of_getElem? (i := 14) rfl)) rfl
theorem kX6_41 : Cond.methodLink RX6 41 yX6_shortenFrom ∈ AL ∧ Cond.instanceMethod yX6_shortenFrom ∈ AL ∧ Cond.selects mX6_shortenFrom.1.cls yX6_shortenFrom yX6_shortenFrom ∈ AL := ⟨w6_81, w6_83, w0_14⟩
theorem w6_85 : Cond.methodLink RL 321 yL_nearestCushion ∈ AL := AL_in (T6 (List.mem_of_getElem? (i := 85) rfl)) rfl
theorem w6_86 : Cond.static yL_nearestCushion ∈ AL := AL_in (T6 (List.mem_of_getElem? (i := 86) rfl)) rfl
theorem kL_321 : Cond.methodLink RL 321 yL_nearestCushion ∈ AL ∧ Cond.static yL_nearestCushion ∈ AL := ⟨w6_85, w6_86⟩
theorem w6_88 : Cond.methodLink RL 82 yX8_nearestCushion ∈ AL := AL_in (T6 (List.mem_of_getElem? (i := 88) rfl)) rfl
theorem w6_89 : Cond.instanceMethod yX8_nearestCushion ∈ AL := AL_in (T6 (List.mem_of_getElem? (i := 89) rfl)) rfl
theorem w6_90 : Cond.selects RX8 yX8_nearestCushion yX8_nearestCushion ∈ AL := AL_in (T6 (List.mem_of_getElem? (i := 90) rfl)) rfl
theorem kL_82 : Cond.methodLink RL 82 yX8_nearestCushion ∈ AL ∧ Cond.instanceMethod yX8_nearestCushion ∈ AL ∧ Cond.selects mX8_nearestCushion.1.cls yX8_nearestCushion yX8_nearestCushion ∈ AL := ⟨w6_88, w6_89, w6_90⟩
theorem w6_92 : Cond.methodLink RX8 165 yX6_cushionNear ∈ AL := AL_in (T6 (List.mem_of_getElem? (i := 92) rfl)) rfl
theorem w6_93 : Cond.instanceMethod yX6_cushionNear ∈ AL := AL_in (T6 (List.mem_of_getElem? (i := 93) rfl)) rfl
theorem w6_94 : Cond.selects RX6 yX6_cushionNear yX6_cushionNear ∈ AL := AL_in (T6 (List.mem_of_getElem? (i := 94) rfl)) rfl
theorem kX8_165 : Cond.methodLink RX8 165 yX6_cushionNear ∈ AL ∧ Cond.instanceMethod yX6_cushionNear ∈ AL ∧ Cond.selects mX6_cushionNear.1.cls yX6_cushionNear yX6_cushionNear ∈ AL := ⟨w6_92, w6_93, w6_94⟩
theorem w6_96 : Cond.methodLink RL 323 yX8_partCount ∈ AL := AL_in (T6 (List.mem_of_getElem? (i := 96) rfl)) rfl
theorem w6_97 : Cond.instanceMethod yX8_partCount ∈ AL := AL_in (T6 (List.mem_of_getElem? (i := 97) rfl)) rfl
theorem w6_98 : Cond.selects RX8 yX8_partCount yX8_partCount ∈ AL := AL_in (T6 (List.mem_of_getElem? (i := 98) rfl)) rfl
theorem kL_323 : Cond.methodLink RL 323 yX8_partCount ∈ AL ∧ Cond.instanceMethod yX8_partCount ∈ AL ∧ Cond.selects mX8_partCount.1.cls yX8_partCount yX8_partCount ∈ AL := ⟨w6_96, w6_97, w6_98⟩
theorem w6_100 : Cond.methodLink RX8 158 yX6_partsByWalks ∈ AL := AL_in (T6 (List.mem_of_getElem? (i := 100) rfl)) rfl
theorem w6_101 : Cond.instanceMethod yX6_partsByWalks ∈ AL := AL_in (T6 (List.mem_of_getElem? (i := 101) rfl)) rfl
theorem w6_102 : Cond.selects RX6 yX6_partsByWalks yX6_partsByWalks ∈ AL := AL_in (T6 (List.mem_of_getElem? (i := 102) rfl)) rfl
theorem kX8_158 : Cond.methodLink RX8 158 yX6_partsByWalks ∈ AL ∧ Cond.instanceMethod yX6_partsByWalks ∈ AL ∧ Cond.selects mX6_partsByWalks.1.cls yX6_partsByWalks yX6_partsByWalks ∈ AL := ⟨w6_100, w6_101, w6_102⟩
theorem w6_104 : Cond.methodLink RX6 64 yX6_walk ∈ AL := AL_in (T6 (List.mem_of_getElem? (i := 104) rfl)) rfl
theorem w6_105 : Cond.static yX6_walk ∈ AL := AL_in (T6 (List.mem_of_getElem? (i := 105) rfl)) rfl
theorem kX6_64 : Cond.methodLink RX6 64 yX6_walk ∈ AL ∧ Cond.static yX6_walk ∈ AL := ⟨w6_104, w6_105⟩
theorem w6_107 : Cond.methodLink RL 326 yX8_partCountByUnions ∈ AL := AL_in (T6 (List.mem_of_getElem? (i := 107) rfl)) rfl
theorem w6_108 : Cond.instanceMethod yX8_partCountByUnions ∈ AL := AL_in (T6 (List.mem_of_getElem? (i := 108) rfl)) rfl
theorem w6_109 : Cond.selects RX8 yX8_partCountByUnions yX8_partCountByUnions ∈ AL := AL_in (T6 (List.mem_of_getElem? (i := 109) rfl)) rfl
theorem kL_326 : Cond.methodLink RL 326 yX8_partCountByUnions ∈ AL ∧ Cond.instanceMethod yX8_partCountByUnions ∈ AL ∧ Cond.selects mX8_partCountByUnions.1.cls yX8_partCountByUnions yX8_partCountByUnions ∈ AL := ⟨w6_107, w6_108, w6_109⟩
theorem w6_111 : Cond.methodLink RX8 162 yX6_partsByUnions ∈ AL := AL_in (T6 (List.mem_of_getElem? (i := 111) rfl)) rfl
theorem w6_112 : Cond.instanceMethod yX6_partsByUnions ∈ AL := AL_in (T6 (List.mem_of_getElem? (i := 112) rfl)) rfl
theorem w6_113 : Cond.selects RX6 yX6_partsByUnions yX6_partsByUnions ∈ AL := AL_in (T6 (List.mem_of_getElem? (i := 113) rfl)) rfl
theorem kX8_162 : Cond.methodLink RX8 162 yX6_partsByUnions ∈ AL ∧ Cond.instanceMethod yX6_partsByUnions ∈ AL ∧ Cond.selects mX6_partsByUnions.1.cls yX6_partsByUnions yX6_partsByUnions ∈ AL := ⟨w6_111, w6_112, w6_113⟩
theorem w6_115 : Cond.methodLink RX6 68 yX6_unite ∈ AL := AL_in (T6 (List.mem_of_getElem? (i := 115) rfl)) rfl
theorem w6_117 : Cond.instanceMethod yX6_unite ∈ AL := AL_in (T6 (List.mem_of_getElem? (i := 117) rfl)) rfl
theorem w0_15 : Cond.selects RX6 yX6_unite yX6_unite ∈ AL := AL_in (T0 (List.mem_of_getElem? (i := 15) rfl)) rfl
theorem kX6_68 : Cond.methodLink RX6 68 yX6_unite ∈ AL ∧ Cond.instanceMethod yX6_unite ∈ AL ∧ Cond.selects mX6_unite.1.cls yX6_unite yX6_unite ∈ AL := ⟨w6_115, w6_117, w0_15⟩
theorem w6_119 : Cond.methodLink RL 357 yX8_isConsistent ∈ AL := AL_in (T6 (List.mem_of_getElem? (i := 119) rfl)) rfl
theorem w6_120 : Cond.instanceMethod yX8_isConsistent ∈ AL := AL_in (T6 (List.mem_of_getElem? (i := 120) rfl)) rfl
theorem w6_121 : Cond.selects RX8 yX8_isConsistent yX8_isConsistent ∈ AL := AL_in (T6 (List.mem_of_getElem? (i := 121) rfl)) rfl
theorem kL_357 : Cond.methodLink RL 357 yX8_isConsistent ∈ AL ∧ Cond.instanceMethod yX8_isConsistent ∈ AL ∧ Cond.selects mX8_isConsistent.1.cls yX8_isConsistent yX8_isConsistent ∈ AL := ⟨w6_119, w6_120, w6_121⟩
theorem w6_123 : Cond.methodLink RX8 276 yX6_distancesAgree ∈ AL := AL_in (T6 (List.mem_of_getElem? (i := 123) rfl)) rfl
theorem w6_124 : Cond.instanceMethod yX6_distancesAgree ∈ AL := AL_in (T6 (List.mem_of_getElem? (i := 124) rfl)) rfl
theorem w6_125 : Cond.selects RX6 yX6_distancesAgree yX6_distancesAgree ∈ AL := AL_in (T6 (List.mem_of_getElem? (i := 125) rfl)) rfl
theorem kX8_276 : Cond.methodLink RX8 276 yX6_distancesAgree ∈ AL ∧ Cond.instanceMethod yX6_distancesAgree ∈ AL ∧ Cond.selects mX6_distancesAgree.1.cls yX6_distancesAgree yX6_distancesAgree ∈ AL := ⟨w6_123, w6_124, w6_125⟩
theorem w6_127 : Cond.methodLink RX6 52 yX6_measureByRounds ∈ AL := AL_in (T6 (List.mem_of_getElem? (i := 127) rfl)) rfl
theorem kX6_52 : Cond.methodLink RX6 52 yX6_measureByRounds ∈ AL ∧ Cond.instanceMethod yX6_measureByRounds ∈ AL ∧ Cond.selects mX6_measureByRounds.1.cls yX6_measureByRounds yX6_measureByRounds ∈ AL := ⟨w6_127, w6_78, w6_79⟩
theorem w6_128 : Cond.methodLink RL 221 yL_isKept ∈ AL := AL_in (T6 (List.mem_of_getElem? (i := 128) rfl)) rfl
theorem w6_129 : Cond.static yL_isKept ∈ AL := AL_in (T6 (List.mem_of_getElem? (i := 129) rfl)) rfl
theorem kL_221 : Cond.methodLink RL 221 yL_isKept ∈ AL ∧ Cond.static yL_isKept ∈ AL := ⟨w6_128, w6_129⟩
theorem w6_131 : Cond.methodLink RL 361 yX8_save ∈ AL := AL_in (T6 (List.mem_of_getElem? (i := 131) rfl)) rfl
theorem w6_132 : Cond.instanceMethod yX8_save ∈ AL := AL_in (T6 (List.mem_of_getElem? (i := 132) rfl)) rfl
theorem w6_133 : Cond.selects RX8 yX8_save yX8_save ∈ AL := AL_in (T6 (List.mem_of_getElem? (i := 133) rfl)) rfl
theorem kL_361 : Cond.methodLink RL 361 yX8_save ∈ AL ∧ Cond.instanceMethod yX8_save ∈ AL ∧ Cond.selects mX8_save.1.cls yX8_save yX8_save ∈ AL := ⟨w6_131, w6_132, w6_133⟩
theorem w6_135 : Cond.methodLink RL 364 yJ9_min_7cf53 ∈ AL := AL_in (T6 (List.mem_of_getElem? (i := 135) rfl)) rfl
theorem kL_364 : Cond.methodLink RL 364 yJ9_min_7cf53 ∈ AL ∧ Cond.static yJ9_min_7cf53 ∈ AL := ⟨w6_135, w3_84⟩
theorem w6_136 : Cond.methodLink RL 369 yL_undo ∈ AL := AL_in (T6 (List.mem_of_getElem? (i := 136) rfl)) rfl
theorem w6_137 : Cond.static yL_undo ∈ AL := AL_in (T6 (List.mem_of_getElem? (i := 137) rfl)) rfl
theorem kL_369 : Cond.methodLink RL 369 yL_undo ∈ AL ∧ Cond.static yL_undo ∈ AL := ⟨w6_136, w6_137⟩
theorem w6_139 : Cond.methodLink RL 166 yX8_undo ∈ AL := AL_in (T6 (List.mem_of_getElem? (i := 139) rfl)) rfl
theorem w6_140 : Cond.instanceMethod yX8_undo ∈ AL := AL_in (T6 (List.mem_of_getElem? (i := 140) rfl)) rfl
theorem w6_141 : Cond.selects RX8 yX8_undo yX8_undo ∈ AL := AL_in (T6 (List.mem_of_getElem? (i := 141) rfl)) rfl
theorem kL_166 : Cond.methodLink RL 166 yX8_undo ∈ AL ∧ Cond.instanceMethod yX8_undo ∈ AL ∧ Cond.selects mX8_undo.1.cls yX8_undo yX8_undo ∈ AL := ⟨w6_139, w6_140, w6_141⟩
theorem w6_144 : Cond.methodLink RX8 333 yX3_stepBack ∈ AL := AL_in (T6 (List.mem_of_getElem? (i := 144) rfl)) rfl
theorem w6_145 : Cond.instanceMethod yX3_stepBack ∈ AL := AL_in (T6 (List.mem_of_getElem? (i := 145) rfl)) rfl
theorem w6_146 : Cond.selects RX3 yX3_stepBack yX3_stepBack ∈ AL := AL_in (T6 (List.mem_of_getElem? (i := 146) rfl)) rfl
theorem kX8_333 : Cond.methodLink RX8 333 yX3_stepBack ∈ AL ∧ Cond.instanceMethod yX3_stepBack ∈ AL ∧ Cond.selects mX3_stepBack.1.cls yX3_stepBack yX3_stepBack ∈ AL := ⟨w6_144, w6_145, w6_146⟩
theorem w6_148 : Cond.methodLink RL 371 yL_restore ∈ AL := AL_in (T6 (List.mem_of_getElem? (i := 148) rfl)) rfl
theorem w6_149 : Cond.static yL_restore ∈ AL := AL_in (T6 (List.mem_of_getElem? (i := 149) rfl)) rfl
theorem kL_371 : Cond.methodLink RL 371 yL_restore ∈ AL ∧ Cond.static yL_restore ∈ AL := ⟨w6_148, w6_149⟩
theorem w6_151 : Cond.methodLink RL 169 yX8_restore ∈ AL := AL_in (T6 (List.mem_of_getElem? (i := 151) rfl)) rfl
theorem w6_152 : Cond.instanceMethod yX8_restore ∈ AL := AL_in (T6 (List.mem_of_getElem? (i := 152) rfl)) rfl
theorem w6_153 : Cond.selects RX8 yX8_restore yX8_restore ∈ AL := AL_in (T6 (List.mem_of_getElem? (i := 153) rfl)) rfl
theorem kL_169 : Cond.methodLink RL 169 yX8_restore ∈ AL ∧ Cond.instanceMethod yX8_restore ∈ AL ∧ Cond.selects mX8_restore.1.cls yX8_restore yX8_restore ∈ AL := ⟨w6_151, w6_152, w6_153⟩
theorem w6_156 : Cond.methodLink RX8 338 yX3_forget ∈ AL := AL_in (T6 (List.mem_of_getElem? (i := 156) rfl)) rfl
theorem w6_157 : Cond.instanceMethod yX3_forget ∈ AL := AL_in (T6 (List.mem_of_getElem? (i := 157) rfl)) rfl
theorem w6_158 : Cond.selects RX3 yX3_forget yX3_forget ∈ AL := AL_in (T6 (List.mem_of_getElem? (i := 158) rfl)) rfl
theorem kX8_338 : Cond.methodLink RX8 338 yX3_forget ∈ AL ∧ Cond.instanceMethod yX3_forget ∈ AL ∧ Cond.selects mX3_forget.1.cls yX3_forget yX3_forget ∈ AL := ⟨w6_156, w6_157, w6_158⟩
theorem w1_44 : Cond.instanceMethod yX4_init ∈ AL := AL_in (T1 (List.mem_of_getElem? (i := 44) rfl)) rfl
theorem kX8_11 : (RX8, 11, yX4_init, "SofaRailway") ∈ SFM ∧ Cond.instanceMethod yX4_init ∈ AL := ⟨List.mem_of_getElem? (i := 0) rfl, w1_44⟩
theorem kX3_24 : (RX3, 24, yX4_init, "SofaRailway") ∈ SFM ∧ Cond.instanceMethod yX4_init ∈ AL := ⟨List.mem_of_getElem? (i := 1) rfl, w1_44⟩
theorem w1_145 : Cond.instanceMethod yX6_init ∈ AL := AL_in (T1 (List.mem_of_getElem? (i := 145) rfl)) rfl
theorem kX8_31 : (RX8, 31, yX6_init, "SofaRailway") ∈ SFM ∧ Cond.instanceMethod yX6_init ∈ AL := ⟨List.mem_of_getElem? (i := 2) rfl, w1_145⟩
theorem w1_164 : Cond.instanceMethod yX7_init ∈ AL := AL_in (T1 (List.mem_of_getElem? (i := 164) rfl)) rfl
theorem kX8_38 : (RX8, 38, yX7_init, "SofaRailway") ∈ SFM ∧ Cond.instanceMethod yX7_init ∈ AL := ⟨List.mem_of_getElem? (i := 3) rfl, w1_164⟩
theorem kX7_11 : (RX7, 11, yX6_init, "SofaRailway") ∈ SFM ∧ Cond.instanceMethod yX6_init ∈ AL := ⟨List.mem_of_getElem? (i := 4) rfl, w1_145⟩
theorem w1_182 : Cond.instanceMethod yX2_init ∈ AL := AL_in (T1 (List.mem_of_getElem? (i := 182) rfl)) rfl
theorem kX8_45 : (RX8, 45, yX2_init, "SofaRailway") ∈ SFM ∧ Cond.instanceMethod yX2_init ∈ AL := ⟨List.mem_of_getElem? (i := 5) rfl, w1_182⟩
theorem w1_217 : Cond.instanceMethod yX5_init ∈ AL := AL_in (T1 (List.mem_of_getElem? (i := 217) rfl)) rfl
theorem kX8_52 : (RX8, 52, yX5_init, "SofaRailway") ∈ SFM ∧ Cond.instanceMethod yX5_init ∈ AL := ⟨List.mem_of_getElem? (i := 6) rfl, w1_217⟩
theorem kX6_37 : (RX6, 37, yX8_has, "SofaRailway") ∈ SFM ∧ Cond.static yX8_has ∈ AL := ⟨List.mem_of_getElem? (i := 7) rfl, w2_205⟩
theorem kX4_64 : (RX4, 64, yX8_has, "SofaRailway") ∈ SFM ∧ Cond.static yX8_has ∈ AL := ⟨List.mem_of_getElem? (i := 8) rfl, w2_205⟩
theorem kX7_38 : (RX7, 38, yX8_has, "SofaRailway") ∈ SFM ∧ Cond.static yX8_has ∈ AL := ⟨List.mem_of_getElem? (i := 9) rfl, w2_205⟩
theorem w1_198 : Cond.laysFinal RX2 "SofaRailway$CommandReader" "text" "[C" ∈ AL := AL_in (T1 (List.mem_of_getElem? (i := 198) rfl)) rfl
theorem w1_200 : Cond.lays RX2 "SofaRailway$CommandReader" "size" "I" ∈ AL := AL_in (T1 (List.mem_of_getElem? (i := 200) rfl)) rfl
theorem w1_202 : Cond.lays RX2 "SofaRailway$CommandReader" "position" "I" ∈ AL := AL_in (T1 (List.mem_of_getElem? (i := 202) rfl)) rfl
theorem w1_204 : Cond.lays RX2 "SofaRailway$CommandReader" "ended" "Z" ∈ AL := AL_in (T1 (List.mem_of_getElem? (i := 204) rfl)) rfl
theorem w1_206 : Cond.lays RX2 "SofaRailway$CommandReader" "command" "LSofaRailway$Command;" ∈ AL := AL_in (T1 (List.mem_of_getElem? (i := 206) rfl)) rfl
theorem w1_208 : Cond.lays RX2 "SofaRailway$CommandReader" "first" "I" ∈ AL := AL_in (T1 (List.mem_of_getElem? (i := 208) rfl)) rfl
theorem w1_210 : Cond.lays RX2 "SofaRailway$CommandReader" "second" "I" ∈ AL := AL_in (T1 (List.mem_of_getElem? (i := 210) rfl)) rfl
theorem uwX2 : ∀ w ∈ u_ws RX2 TX2 7, w ∈ AL := List.forall_mem_cons.mpr ⟨w1_198, List.forall_mem_cons.mpr ⟨w1_200, List.forall_mem_cons.mpr ⟨w1_202, List.forall_mem_cons.mpr ⟨w1_204, List.forall_mem_cons.mpr ⟨w1_206, List.forall_mem_cons.mpr ⟨w1_208, List.forall_mem_cons.mpr ⟨w1_210, fun _ h => absurd h List.not_mem_nil⟩⟩⟩⟩⟩⟩⟩
theorem w1_135 : Cond.laysFinal RX3 "SofaRailway$History" "slots" "[LSofaRailway$Layout;" ∈ AL := AL_in (T1 (List.mem_of_getElem? (i := 135) rfl)) rfl
theorem w1_137 : Cond.lays RX3 "SofaRailway$History" "next" "I" ∈ AL := AL_in (T1 (List.mem_of_getElem? (i := 137) rfl)) rfl
theorem w1_139 : Cond.lays RX3 "SofaRailway$History" "count" "I" ∈ AL := AL_in (T1 (List.mem_of_getElem? (i := 139) rfl)) rfl
theorem uwX3 : ∀ w ∈ u_ws RX3 TX3 3, w ∈ AL := List.forall_mem_cons.mpr ⟨w1_135, List.forall_mem_cons.mpr ⟨w1_137, List.forall_mem_cons.mpr ⟨w1_139, fun _ h => absurd h List.not_mem_nil⟩⟩⟩
theorem w1_90 : Cond.lays RX4 "SofaRailway$Layout" "blocks" "I" ∈ AL := AL_in (T1 (List.mem_of_getElem? (i := 90) rfl)) rfl
theorem w1_92 : Cond.lays RX4 "SofaRailway$Layout" "trains" "I" ∈ AL := AL_in (T1 (List.mem_of_getElem? (i := 92) rfl)) rfl
theorem w1_94 : Cond.lays RX4 "SofaRailway$Layout" "ticks" "I" ∈ AL := AL_in (T1 (List.mem_of_getElem? (i := 94) rfl)) rfl
theorem w1_96 : Cond.lays RX4 "SofaRailway$Layout" "arrivals" "I" ∈ AL := AL_in (T1 (List.mem_of_getElem? (i := 96) rfl)) rfl
theorem w1_98 : Cond.lays RX4 "SofaRailway$Layout" "cushions" "I" ∈ AL := AL_in (T1 (List.mem_of_getElem? (i := 98) rfl)) rfl
theorem w1_100 : Cond.lays RX4 "SofaRailway$Layout" "cats" "I" ∈ AL := AL_in (T1 (List.mem_of_getElem? (i := 100) rfl)) rfl
theorem w1_102 : Cond.lays RX4 "SofaRailway$Layout" "derailed" "I" ∈ AL := AL_in (T1 (List.mem_of_getElem? (i := 102) rfl)) rfl
theorem w1_104 : Cond.laysFinal RX4 "SofaRailway$Layout" "lengths" "[I" ∈ AL := AL_in (T1 (List.mem_of_getElem? (i := 104) rfl)) rfl
theorem w1_106 : Cond.laysFinal RX4 "SofaRailway$Layout" "links" "[I" ∈ AL := AL_in (T1 (List.mem_of_getElem? (i := 106) rfl)) rfl
theorem w1_108 : Cond.laysFinal RX4 "SofaRailway$Layout" "places" "[I" ∈ AL := AL_in (T1 (List.mem_of_getElem? (i := 108) rfl)) rfl
theorem w1_110 : Cond.laysFinal RX4 "SofaRailway$Layout" "priorities" "[I" ∈ AL := AL_in (T1 (List.mem_of_getElem? (i := 110) rfl)) rfl
theorem w1_112 : Cond.laysFinal RX4 "SofaRailway$Layout" "remaining" "[I" ∈ AL := AL_in (T1 (List.mem_of_getElem? (i := 112) rfl)) rfl
theorem w1_114 : Cond.laysFinal RX4 "SofaRailway$Layout" "goals" "[I" ∈ AL := AL_in (T1 (List.mem_of_getElem? (i := 114) rfl)) rfl
theorem w1_116 : Cond.laysFinal RX4 "SofaRailway$Layout" "holds" "[I" ∈ AL := AL_in (T1 (List.mem_of_getElem? (i := 116) rfl)) rfl
theorem w1_118 : Cond.laysFinal RX4 "SofaRailway$Layout" "waits" "[I" ∈ AL := AL_in (T1 (List.mem_of_getElem? (i := 118) rfl)) rfl
theorem uwX4 : ∀ w ∈ u_ws RX4 TX4 15, w ∈ AL := List.forall_mem_cons.mpr ⟨w1_90, List.forall_mem_cons.mpr ⟨w1_92, List.forall_mem_cons.mpr ⟨w1_94, List.forall_mem_cons.mpr ⟨w1_96, List.forall_mem_cons.mpr ⟨w1_98, List.forall_mem_cons.mpr ⟨w1_100, List.forall_mem_cons.mpr ⟨w1_102, List.forall_mem_cons.mpr ⟨w1_104, List.forall_mem_cons.mpr ⟨w1_106, List.forall_mem_cons.mpr ⟨w1_108, List.forall_mem_cons.mpr ⟨w1_110, List.forall_mem_cons.mpr ⟨w1_112, List.forall_mem_cons.mpr ⟨w1_114, List.forall_mem_cons.mpr ⟨w1_116, List.forall_mem_cons.mpr ⟨w1_118, fun _ h => absurd h List.not_mem_nil⟩⟩⟩⟩⟩⟩⟩⟩⟩⟩⟩⟩⟩⟩⟩
theorem w1_222 : Cond.laysFinal RX5 "SofaRailway$Output" "signs" "[C" ∈ AL := AL_in (T1 (List.mem_of_getElem? (i := 222) rfl)) rfl
theorem w1_224 : Cond.lays RX5 "SofaRailway$Output" "size" "I" ∈ AL := AL_in (T1 (List.mem_of_getElem? (i := 224) rfl)) rfl
theorem uwX5 : ∀ w ∈ u_ws RX5 TX5 2, w ∈ AL := List.forall_mem_cons.mpr ⟨w1_222, List.forall_mem_cons.mpr ⟨w1_224, fun _ h => absurd h List.not_mem_nil⟩⟩
theorem w1_154 : Cond.laysFinal RX6 "SofaRailway$Routes" "byNearest" "[I" ∈ AL := AL_in (T1 (List.mem_of_getElem? (i := 154) rfl)) rfl
theorem w1_156 : Cond.laysFinal RX6 "SofaRailway$Routes" "byRounds" "[I" ∈ AL := AL_in (T1 (List.mem_of_getElem? (i := 156) rfl)) rfl
theorem w1_158 : Cond.laysFinal RX6 "SofaRailway$Routes" "groups" "[I" ∈ AL := AL_in (T1 (List.mem_of_getElem? (i := 158) rfl)) rfl
theorem uwX6 : ∀ w ∈ u_ws RX6 TX6 3, w ∈ AL := List.forall_mem_cons.mpr ⟨w1_154, List.forall_mem_cons.mpr ⟨w1_156, List.forall_mem_cons.mpr ⟨w1_158, fun _ h => absurd h List.not_mem_nil⟩⟩⟩
theorem w1_172 : Cond.laysFinal RX7 "SofaRailway$Traffic" "routes" "LSofaRailway$Routes;" ∈ AL := AL_in (T1 (List.mem_of_getElem? (i := 172) rfl)) rfl
theorem w1_174 : Cond.laysFinal RX7 "SofaRailway$Traffic" "blockers" "[I" ∈ AL := AL_in (T1 (List.mem_of_getElem? (i := 174) rfl)) rfl
theorem w1_176 : Cond.laysFinal RX7 "SofaRailway$Traffic" "table" "[I" ∈ AL := AL_in (T1 (List.mem_of_getElem? (i := 176) rfl)) rfl
theorem uwX7 : ∀ w ∈ u_ws RX7 TX7 3, w ∈ AL := List.forall_mem_cons.mpr ⟨w1_172, List.forall_mem_cons.mpr ⟨w1_174, List.forall_mem_cons.mpr ⟨w1_176, fun _ h => absurd h List.not_mem_nil⟩⟩⟩
theorem w1_238 : Cond.laysFinal RX8 "SofaRailway" "now" "LSofaRailway$Layout;" ∈ AL := AL_in (T1 (List.mem_of_getElem? (i := 238) rfl)) rfl
theorem w2_0 : Cond.laysFinal RX8 "SofaRailway" "saved" "LSofaRailway$Layout;" ∈ AL := AL_in (T2 (List.mem_of_getElem? (i := 0) rfl)) rfl
theorem w2_2 : Cond.laysFinal RX8 "SofaRailway" "forecast" "LSofaRailway$Layout;" ∈ AL := AL_in (T2 (List.mem_of_getElem? (i := 2) rfl)) rfl
theorem w2_4 : Cond.laysFinal RX8 "SofaRailway" "history" "LSofaRailway$History;" ∈ AL := AL_in (T2 (List.mem_of_getElem? (i := 4) rfl)) rfl
theorem w2_6 : Cond.laysFinal RX8 "SofaRailway" "routes" "LSofaRailway$Routes;" ∈ AL := AL_in (T2 (List.mem_of_getElem? (i := 6) rfl)) rfl
theorem w2_8 : Cond.laysFinal RX8 "SofaRailway" "traffic" "LSofaRailway$Traffic;" ∈ AL := AL_in (T2 (List.mem_of_getElem? (i := 8) rfl)) rfl
theorem w2_10 : Cond.laysFinal RX8 "SofaRailway" "reader" "LSofaRailway$CommandReader;" ∈ AL := AL_in (T2 (List.mem_of_getElem? (i := 10) rfl)) rfl
theorem w2_12 : Cond.laysFinal RX8 "SofaRailway" "output" "LSofaRailway$Output;" ∈ AL := AL_in (T2 (List.mem_of_getElem? (i := 12) rfl)) rfl
theorem w2_14 : Cond.lays RX8 "SofaRailway" "hasSaved" "Z" ∈ AL := AL_in (T2 (List.mem_of_getElem? (i := 14) rfl)) rfl
theorem w2_16 : Cond.lays RX8 "SofaRailway" "keptErrorPosition" "I" ∈ AL := AL_in (T2 (List.mem_of_getElem? (i := 16) rfl)) rfl
theorem w2_18 : Cond.lays RX8 "SofaRailway" "keptFailedCommand" "I" ∈ AL := AL_in (T2 (List.mem_of_getElem? (i := 18) rfl)) rfl
theorem uwX8 : ∀ w ∈ u_ws RX8 TX8 11, w ∈ AL := List.forall_mem_cons.mpr ⟨w1_238, List.forall_mem_cons.mpr ⟨w2_0, List.forall_mem_cons.mpr ⟨w2_2, List.forall_mem_cons.mpr ⟨w2_4, List.forall_mem_cons.mpr ⟨w2_6, List.forall_mem_cons.mpr ⟨w2_8, List.forall_mem_cons.mpr ⟨w2_10, List.forall_mem_cons.mpr ⟨w2_12, List.forall_mem_cons.mpr ⟨w2_14, List.forall_mem_cons.mpr ⟨w2_16, List.forall_mem_cons.mpr ⟨w2_18, fun _ h => absurd h List.not_mem_nil⟩⟩⟩⟩⟩⟩⟩⟩⟩⟩⟩
theorem w4_16 : Cond.lays RJ4 "java/lang/AbstractStringBuilder" "value" "[B" ∈ AL := AL_in (T4 (List.mem_of_getElem? (i := 16) rfl)) rfl
theorem w4_18 : Cond.lays RJ4 "java/lang/AbstractStringBuilder" "coder" "B" ∈ AL := AL_in (T4 (List.mem_of_getElem? (i := 18) rfl)) rfl
theorem w4_20 : Cond.lays RJ4 "java/lang/AbstractStringBuilder" "maybeLatin1" "Z" ∈ AL := AL_in (T4 (List.mem_of_getElem? (i := 20) rfl)) rfl
theorem w4_22 : Cond.lays RJ4 "java/lang/AbstractStringBuilder" "count" "I" ∈ AL := AL_in (T4 (List.mem_of_getElem? (i := 22) rfl)) rfl
theorem uwJ4 : ∀ w ∈ u_ws RJ4 TJ4 4, w ∈ AL := List.forall_mem_cons.mpr ⟨w4_16, List.forall_mem_cons.mpr ⟨w4_18, List.forall_mem_cons.mpr ⟨w4_20, List.forall_mem_cons.mpr ⟨w4_22, fun _ h => absurd h List.not_mem_nil⟩⟩⟩⟩
theorem w1_47 : Cond.fieldLink RX4 9 "SofaRailway$Layout" "blocks" "I" ∈ AL := AL_in (T1 (List.mem_of_getElem? (i := 47) rfl)) rfl
theorem fX4_9 : FL RX4 9 4 0 .int 0 := ⟨RX4, TX4, 15, tyX4, rfl, by decide, uwX4, tyX4_ok, nmX4, w1_47, rfl, Or.inl ⟨rfl, rfl⟩⟩
theorem w1_48 : Cond.fieldLink RX6 21 "SofaRailway$Layout" "blocks" "I" ∈ AL := AL_in (T1 (List.mem_of_getElem? (i := 48) rfl)) rfl
theorem fX6_21 : FL RX6 21 4 0 .int 0 := ⟨RX4, TX4, 15, tyX4, rfl, by decide, uwX4, tyX4_ok, nmX4, w1_48, rfl, Or.inl ⟨rfl, rfl⟩⟩
theorem w1_49 : Cond.fieldLink RX8 93 "SofaRailway$Layout" "blocks" "I" ∈ AL := AL_in (T1 (List.mem_of_getElem? (i := 49) rfl)) rfl
theorem fX8_93 : FL RX8 93 4 0 .int 0 := ⟨RX4, TX4, 15, tyX4, rfl, by decide, uwX4, tyX4_ok, nmX4, w1_49, rfl, Or.inl ⟨rfl, rfl⟩⟩
theorem w1_50 : Cond.fieldLink RX4 15 "SofaRailway$Layout" "trains" "I" ∈ AL := AL_in (T1 (List.mem_of_getElem? (i := 50) rfl)) rfl
theorem fX4_15 : FL RX4 15 4 1 .int 0 := ⟨RX4, TX4, 15, tyX4, rfl, by decide, uwX4, tyX4_ok, nmX4, w1_50, rfl, Or.inl ⟨rfl, rfl⟩⟩
theorem w1_51 : Cond.fieldLink RX7 58 "SofaRailway$Layout" "trains" "I" ∈ AL := AL_in (T1 (List.mem_of_getElem? (i := 51) rfl)) rfl
theorem fX7_58 : FL RX7 58 4 1 .int 0 := ⟨RX4, TX4, 15, tyX4, rfl, by decide, uwX4, tyX4_ok, nmX4, w1_51, rfl, Or.inl ⟨rfl, rfl⟩⟩
theorem w1_52 : Cond.fieldLink RX8 187 "SofaRailway$Layout" "trains" "I" ∈ AL := AL_in (T1 (List.mem_of_getElem? (i := 52) rfl)) rfl
theorem fX8_187 : FL RX8 187 4 1 .int 0 := ⟨RX4, TX4, 15, tyX4, rfl, by decide, uwX4, tyX4_ok, nmX4, w1_52, rfl, Or.inl ⟨rfl, rfl⟩⟩
theorem w1_53 : Cond.fieldLink RX4 18 "SofaRailway$Layout" "ticks" "I" ∈ AL := AL_in (T1 (List.mem_of_getElem? (i := 53) rfl)) rfl
theorem fX4_18 : FL RX4 18 4 2 .int 0 := ⟨RX4, TX4, 15, tyX4, rfl, by decide, uwX4, tyX4_ok, nmX4, w1_53, rfl, Or.inl ⟨rfl, rfl⟩⟩
theorem w1_54 : Cond.fieldLink RX7 68 "SofaRailway$Layout" "ticks" "I" ∈ AL := AL_in (T1 (List.mem_of_getElem? (i := 54) rfl)) rfl
theorem fX7_68 : FL RX7 68 4 2 .int 0 := ⟨RX4, TX4, 15, tyX4, rfl, by decide, uwX4, tyX4_ok, nmX4, w1_54, rfl, Or.inl ⟨rfl, rfl⟩⟩
theorem w1_55 : Cond.fieldLink RX8 223 "SofaRailway$Layout" "ticks" "I" ∈ AL := AL_in (T1 (List.mem_of_getElem? (i := 55) rfl)) rfl
theorem fX8_223 : FL RX8 223 4 2 .int 0 := ⟨RX4, TX4, 15, tyX4, rfl, by decide, uwX4, tyX4_ok, nmX4, w1_55, rfl, Or.inl ⟨rfl, rfl⟩⟩
theorem w1_56 : Cond.fieldLink RX4 21 "SofaRailway$Layout" "arrivals" "I" ∈ AL := AL_in (T1 (List.mem_of_getElem? (i := 56) rfl)) rfl
theorem fX4_21 : FL RX4 21 4 3 .int 0 := ⟨RX4, TX4, 15, tyX4, rfl, by decide, uwX4, tyX4_ok, nmX4, w1_56, rfl, Or.inl ⟨rfl, rfl⟩⟩
theorem w1_57 : Cond.fieldLink RX7 55 "SofaRailway$Layout" "arrivals" "I" ∈ AL := AL_in (T1 (List.mem_of_getElem? (i := 57) rfl)) rfl
theorem fX7_55 : FL RX7 55 4 3 .int 0 := ⟨RX4, TX4, 15, tyX4, rfl, by decide, uwX4, tyX4_ok, nmX4, w1_57, rfl, Or.inl ⟨rfl, rfl⟩⟩
theorem w1_58 : Cond.fieldLink RX8 226 "SofaRailway$Layout" "arrivals" "I" ∈ AL := AL_in (T1 (List.mem_of_getElem? (i := 58) rfl)) rfl
theorem fX8_226 : FL RX8 226 4 3 .int 0 := ⟨RX4, TX4, 15, tyX4, rfl, by decide, uwX4, tyX4_ok, nmX4, w1_58, rfl, Or.inl ⟨rfl, rfl⟩⟩
theorem w1_59 : Cond.fieldLink RX4 24 "SofaRailway$Layout" "cushions" "I" ∈ AL := AL_in (T1 (List.mem_of_getElem? (i := 59) rfl)) rfl
theorem fX4_24 : FL RX4 24 4 4 .int 0 := ⟨RX4, TX4, 15, tyX4, rfl, by decide, uwX4, tyX4_ok, nmX4, w1_59, rfl, Or.inl ⟨rfl, rfl⟩⟩
theorem w1_60 : Cond.fieldLink RX7 34 "SofaRailway$Layout" "cushions" "I" ∈ AL := AL_in (T1 (List.mem_of_getElem? (i := 60) rfl)) rfl
theorem fX7_34 : FL RX7 34 4 4 .int 0 := ⟨RX4, TX4, 15, tyX4, rfl, by decide, uwX4, tyX4_ok, nmX4, w1_60, rfl, Or.inl ⟨rfl, rfl⟩⟩
theorem w1_61 : Cond.fieldLink RX6 61 "SofaRailway$Layout" "cushions" "I" ∈ AL := AL_in (T1 (List.mem_of_getElem? (i := 61) rfl)) rfl
theorem fX6_61 : FL RX6 61 4 4 .int 0 := ⟨RX4, TX4, 15, tyX4, rfl, by decide, uwX4, tyX4_ok, nmX4, w1_61, rfl, Or.inl ⟨rfl, rfl⟩⟩
theorem w1_62 : Cond.fieldLink RX8 104 "SofaRailway$Layout" "cushions" "I" ∈ AL := AL_in (T1 (List.mem_of_getElem? (i := 62) rfl)) rfl
theorem fX8_104 : FL RX8 104 4 4 .int 0 := ⟨RX4, TX4, 15, tyX4, rfl, by decide, uwX4, tyX4_ok, nmX4, w1_62, rfl, Or.inl ⟨rfl, rfl⟩⟩
theorem w1_63 : Cond.fieldLink RX4 27 "SofaRailway$Layout" "cats" "I" ∈ AL := AL_in (T1 (List.mem_of_getElem? (i := 63) rfl)) rfl
theorem fX4_27 : FL RX4 27 4 5 .int 0 := ⟨RX4, TX4, 15, tyX4, rfl, by decide, uwX4, tyX4_ok, nmX4, w1_63, rfl, Or.inl ⟨rfl, rfl⟩⟩
theorem w1_64 : Cond.fieldLink RX8 111 "SofaRailway$Layout" "cats" "I" ∈ AL := AL_in (T1 (List.mem_of_getElem? (i := 64) rfl)) rfl
theorem fX8_111 : FL RX8 111 4 5 .int 0 := ⟨RX4, TX4, 15, tyX4, rfl, by decide, uwX4, tyX4_ok, nmX4, w1_64, rfl, Or.inl ⟨rfl, rfl⟩⟩
theorem w1_65 : Cond.fieldLink RX4 30 "SofaRailway$Layout" "derailed" "I" ∈ AL := AL_in (T1 (List.mem_of_getElem? (i := 65) rfl)) rfl
theorem fX4_30 : FL RX4 30 4 6 .int 0 := ⟨RX4, TX4, 15, tyX4, rfl, by decide, uwX4, tyX4_ok, nmX4, w1_65, rfl, Or.inl ⟨rfl, rfl⟩⟩
theorem w1_66 : Cond.fieldLink RX7 71 "SofaRailway$Layout" "derailed" "I" ∈ AL := AL_in (T1 (List.mem_of_getElem? (i := 66) rfl)) rfl
theorem fX7_71 : FL RX7 71 4 6 .int 0 := ⟨RX4, TX4, 15, tyX4, rfl, by decide, uwX4, tyX4_ok, nmX4, w1_66, rfl, Or.inl ⟨rfl, rfl⟩⟩
theorem w1_67 : Cond.fieldLink RX8 202 "SofaRailway$Layout" "derailed" "I" ∈ AL := AL_in (T1 (List.mem_of_getElem? (i := 67) rfl)) rfl
theorem fX8_202 : FL RX8 202 4 6 .int 0 := ⟨RX4, TX4, 15, tyX4, rfl, by decide, uwX4, tyX4_ok, nmX4, w1_67, rfl, Or.inl ⟨rfl, rfl⟩⟩
theorem w1_68 : Cond.fieldLink RX4 33 "SofaRailway$Layout" "lengths" "[I" ∈ AL := AL_in (T1 (List.mem_of_getElem? (i := 68) rfl)) rfl
theorem fX4_33 : FL RX4 33 4 7 (.array .int) 1 := ⟨RX4, TX4, 15, tyX4, rfl, by decide, uwX4, tyX4_ok, nmX4, w1_68, rfl, Or.inr (Or.inl ⟨rfl, rfl, rfl⟩)⟩
theorem w1_69 : Cond.fieldLink RX6 31 "SofaRailway$Layout" "lengths" "[I" ∈ AL := AL_in (T1 (List.mem_of_getElem? (i := 69) rfl)) rfl
theorem fX6_31 : FL RX6 31 4 7 (.array .int) 2 := ⟨RX4, TX4, 15, tyX4, rfl, by decide, uwX4, tyX4_ok, nmX4, w1_69, rfl, Or.inr (Or.inr rfl)⟩
theorem w1_70 : Cond.fieldLink RX8 100 "SofaRailway$Layout" "lengths" "[I" ∈ AL := AL_in (T1 (List.mem_of_getElem? (i := 70) rfl)) rfl
theorem fX8_100 : FL RX8 100 4 7 (.array .int) 2 := ⟨RX4, TX4, 15, tyX4, rfl, by decide, uwX4, tyX4_ok, nmX4, w1_70, rfl, Or.inr (Or.inr rfl)⟩
theorem w1_71 : Cond.fieldLink RX4 37 "SofaRailway$Layout" "links" "[I" ∈ AL := AL_in (T1 (List.mem_of_getElem? (i := 71) rfl)) rfl
theorem fX4_37 : FL RX4 37 4 8 (.array .int) 1 := ⟨RX4, TX4, 15, tyX4, rfl, by decide, uwX4, tyX4_ok, nmX4, w1_71, rfl, Or.inr (Or.inl ⟨rfl, rfl, rfl⟩)⟩
theorem w1_72 : Cond.fieldLink RX6 34 "SofaRailway$Layout" "links" "[I" ∈ AL := AL_in (T1 (List.mem_of_getElem? (i := 72) rfl)) rfl
theorem fX6_34 : FL RX6 34 4 8 (.array .int) 2 := ⟨RX4, TX4, 15, tyX4, rfl, by decide, uwX4, tyX4_ok, nmX4, w1_72, rfl, Or.inr (Or.inr rfl)⟩
theorem w1_73 : Cond.fieldLink RX4 40 "SofaRailway$Layout" "places" "[I" ∈ AL := AL_in (T1 (List.mem_of_getElem? (i := 73) rfl)) rfl
theorem fX4_40 : FL RX4 40 4 9 (.array .int) 1 := ⟨RX4, TX4, 15, tyX4, rfl, by decide, uwX4, tyX4_ok, nmX4, w1_73, rfl, Or.inr (Or.inl ⟨rfl, rfl, rfl⟩)⟩
theorem w1_74 : Cond.fieldLink RX7 42 "SofaRailway$Layout" "places" "[I" ∈ AL := AL_in (T1 (List.mem_of_getElem? (i := 74) rfl)) rfl
theorem fX7_42 : FL RX7 42 4 9 (.array .int) 2 := ⟨RX4, TX4, 15, tyX4, rfl, by decide, uwX4, tyX4_ok, nmX4, w1_74, rfl, Or.inr (Or.inr rfl)⟩
theorem w1_75 : Cond.fieldLink RX6 58 "SofaRailway$Layout" "places" "[I" ∈ AL := AL_in (T1 (List.mem_of_getElem? (i := 75) rfl)) rfl
theorem fX6_58 : FL RX6 58 4 9 (.array .int) 2 := ⟨RX4, TX4, 15, tyX4, rfl, by decide, uwX4, tyX4_ok, nmX4, w1_75, rfl, Or.inr (Or.inr rfl)⟩
theorem w1_76 : Cond.fieldLink RX8 190 "SofaRailway$Layout" "places" "[I" ∈ AL := AL_in (T1 (List.mem_of_getElem? (i := 76) rfl)) rfl
theorem fX8_190 : FL RX8 190 4 9 (.array .int) 2 := ⟨RX4, TX4, 15, tyX4, rfl, by decide, uwX4, tyX4_ok, nmX4, w1_76, rfl, Or.inr (Or.inr rfl)⟩
theorem w1_77 : Cond.fieldLink RX4 43 "SofaRailway$Layout" "priorities" "[I" ∈ AL := AL_in (T1 (List.mem_of_getElem? (i := 77) rfl)) rfl
theorem fX4_43 : FL RX4 43 4 10 (.array .int) 1 := ⟨RX4, TX4, 15, tyX4, rfl, by decide, uwX4, tyX4_ok, nmX4, w1_77, rfl, Or.inr (Or.inl ⟨rfl, rfl, rfl⟩)⟩
theorem w1_78 : Cond.fieldLink RX8 193 "SofaRailway$Layout" "priorities" "[I" ∈ AL := AL_in (T1 (List.mem_of_getElem? (i := 78) rfl)) rfl
theorem fX8_193 : FL RX8 193 4 10 (.array .int) 2 := ⟨RX4, TX4, 15, tyX4, rfl, by decide, uwX4, tyX4_ok, nmX4, w1_78, rfl, Or.inr (Or.inr rfl)⟩
theorem w1_79 : Cond.fieldLink RX4 46 "SofaRailway$Layout" "remaining" "[I" ∈ AL := AL_in (T1 (List.mem_of_getElem? (i := 79) rfl)) rfl
theorem fX4_46 : FL RX4 46 4 11 (.array .int) 1 := ⟨RX4, TX4, 15, tyX4, rfl, by decide, uwX4, tyX4_ok, nmX4, w1_79, rfl, Or.inr (Or.inl ⟨rfl, rfl, rfl⟩)⟩
theorem w1_80 : Cond.fieldLink RX7 74 "SofaRailway$Layout" "remaining" "[I" ∈ AL := AL_in (T1 (List.mem_of_getElem? (i := 80) rfl)) rfl
theorem fX7_74 : FL RX7 74 4 11 (.array .int) 2 := ⟨RX4, TX4, 15, tyX4, rfl, by decide, uwX4, tyX4_ok, nmX4, w1_80, rfl, Or.inr (Or.inr rfl)⟩
theorem w1_81 : Cond.fieldLink RX8 196 "SofaRailway$Layout" "remaining" "[I" ∈ AL := AL_in (T1 (List.mem_of_getElem? (i := 81) rfl)) rfl
theorem fX8_196 : FL RX8 196 4 11 (.array .int) 2 := ⟨RX4, TX4, 15, tyX4, rfl, by decide, uwX4, tyX4_ok, nmX4, w1_81, rfl, Or.inr (Or.inr rfl)⟩
theorem w1_82 : Cond.fieldLink RX4 49 "SofaRailway$Layout" "goals" "[I" ∈ AL := AL_in (T1 (List.mem_of_getElem? (i := 82) rfl)) rfl
theorem fX4_49 : FL RX4 49 4 12 (.array .int) 1 := ⟨RX4, TX4, 15, tyX4, rfl, by decide, uwX4, tyX4_ok, nmX4, w1_82, rfl, Or.inr (Or.inl ⟨rfl, rfl, rfl⟩)⟩
theorem w1_83 : Cond.fieldLink RX7 52 "SofaRailway$Layout" "goals" "[I" ∈ AL := AL_in (T1 (List.mem_of_getElem? (i := 83) rfl)) rfl
theorem fX7_52 : FL RX7 52 4 12 (.array .int) 2 := ⟨RX4, TX4, 15, tyX4, rfl, by decide, uwX4, tyX4_ok, nmX4, w1_83, rfl, Or.inr (Or.inr rfl)⟩
theorem w1_84 : Cond.fieldLink RX6 55 "SofaRailway$Layout" "goals" "[I" ∈ AL := AL_in (T1 (List.mem_of_getElem? (i := 84) rfl)) rfl
theorem fX6_55 : FL RX6 55 4 12 (.array .int) 2 := ⟨RX4, TX4, 15, tyX4, rfl, by decide, uwX4, tyX4_ok, nmX4, w1_84, rfl, Or.inr (Or.inr rfl)⟩
theorem w1_85 : Cond.fieldLink RX8 199 "SofaRailway$Layout" "goals" "[I" ∈ AL := AL_in (T1 (List.mem_of_getElem? (i := 85) rfl)) rfl
theorem fX8_199 : FL RX8 199 4 12 (.array .int) 2 := ⟨RX4, TX4, 15, tyX4, rfl, by decide, uwX4, tyX4_ok, nmX4, w1_85, rfl, Or.inr (Or.inr rfl)⟩
theorem w1_86 : Cond.fieldLink RX4 52 "SofaRailway$Layout" "holds" "[I" ∈ AL := AL_in (T1 (List.mem_of_getElem? (i := 86) rfl)) rfl
theorem fX4_52 : FL RX4 52 4 13 (.array .int) 1 := ⟨RX4, TX4, 15, tyX4, rfl, by decide, uwX4, tyX4_ok, nmX4, w1_86, rfl, Or.inr (Or.inl ⟨rfl, rfl, rfl⟩)⟩
theorem w1_87 : Cond.fieldLink RX4 55 "SofaRailway$Layout" "waits" "[I" ∈ AL := AL_in (T1 (List.mem_of_getElem? (i := 87) rfl)) rfl
theorem fX4_55 : FL RX4 55 4 14 (.array .int) 1 := ⟨RX4, TX4, 15, tyX4, rfl, by decide, uwX4, tyX4_ok, nmX4, w1_87, rfl, Or.inr (Or.inl ⟨rfl, rfl, rfl⟩)⟩
theorem w1_88 : Cond.fieldLink RX7 88 "SofaRailway$Layout" "waits" "[I" ∈ AL := AL_in (T1 (List.mem_of_getElem? (i := 88) rfl)) rfl
theorem fX7_88 : FL RX7 88 4 14 (.array .int) 2 := ⟨RX4, TX4, 15, tyX4, rfl, by decide, uwX4, tyX4_ok, nmX4, w1_88, rfl, Or.inr (Or.inr rfl)⟩
theorem w1_89 : Cond.fieldLink RX8 205 "SofaRailway$Layout" "waits" "[I" ∈ AL := AL_in (T1 (List.mem_of_getElem? (i := 89) rfl)) rfl
theorem fX8_205 : FL RX8 205 4 14 (.array .int) 2 := ⟨RX4, TX4, 15, tyX4, rfl, by decide, uwX4, tyX4_ok, nmX4, w1_89, rfl, Or.inr (Or.inr rfl)⟩
theorem w1_131 : Cond.fieldLink RX3 11 "SofaRailway$History" "slots" "[LSofaRailway$Layout;" ∈ AL := AL_in (T1 (List.mem_of_getElem? (i := 131) rfl)) rfl
theorem fX3_11 : FL RX3 11 3 0 (.array (.object "SofaRailway$Layout")) 1 := ⟨RX3, TX3, 3, tyX3, rfl, by decide, uwX3, tyX3_ok, nmX3, w1_131, rfl, Or.inr (Or.inl ⟨rfl, rfl, rfl⟩)⟩
theorem w1_132 : Cond.fieldLink RX3 17 "SofaRailway$History" "next" "I" ∈ AL := AL_in (T1 (List.mem_of_getElem? (i := 132) rfl)) rfl
theorem fX3_17 : FL RX3 17 3 1 .int 0 := ⟨RX3, TX3, 3, tyX3, rfl, by decide, uwX3, tyX3_ok, nmX3, w1_132, rfl, Or.inl ⟨rfl, rfl⟩⟩
theorem w1_133 : Cond.fieldLink RX3 21 "SofaRailway$History" "count" "I" ∈ AL := AL_in (T1 (List.mem_of_getElem? (i := 133) rfl)) rfl
theorem fX3_21 : FL RX3 21 3 2 .int 0 := ⟨RX3, TX3, 3, tyX3, rfl, by decide, uwX3, tyX3_ok, nmX3, w1_133, rfl, Or.inl ⟨rfl, rfl⟩⟩
theorem w1_134 : Cond.fieldLink RX8 328 "SofaRailway$History" "count" "I" ∈ AL := AL_in (T1 (List.mem_of_getElem? (i := 134) rfl)) rfl
theorem fX8_328 : FL RX8 328 3 2 .int 0 := ⟨RX3, TX3, 3, tyX3, rfl, by decide, uwX3, tyX3_ok, nmX3, w1_134, rfl, Or.inl ⟨rfl, rfl⟩⟩
theorem w1_148 : Cond.fieldLink RX6 9 "SofaRailway$Routes" "byNearest" "[I" ∈ AL := AL_in (T1 (List.mem_of_getElem? (i := 148) rfl)) rfl
theorem fX6_9 : FL RX6 9 6 0 (.array .int) 1 := ⟨RX6, TX6, 3, tyX6, rfl, by decide, uwX6, tyX6_ok, nmX6, w1_148, rfl, Or.inr (Or.inl ⟨rfl, rfl, rfl⟩)⟩
theorem w1_149 : Cond.fieldLink RX7 49 "SofaRailway$Routes" "byNearest" "[I" ∈ AL := AL_in (T1 (List.mem_of_getElem? (i := 149) rfl)) rfl
theorem fX7_49 : FL RX7 49 6 0 (.array .int) 2 := ⟨RX6, TX6, 3, tyX6, rfl, by decide, uwX6, tyX6_ok, nmX6, w1_149, rfl, Or.inr (Or.inr rfl)⟩
theorem w1_150 : Cond.fieldLink RX8 142 "SofaRailway$Routes" "byNearest" "[I" ∈ AL := AL_in (T1 (List.mem_of_getElem? (i := 150) rfl)) rfl
theorem fX8_142 : FL RX8 142 6 0 (.array .int) 2 := ⟨RX6, TX6, 3, tyX6, rfl, by decide, uwX6, tyX6_ok, nmX6, w1_150, rfl, Or.inr (Or.inr rfl)⟩
theorem w1_151 : Cond.fieldLink RX6 15 "SofaRailway$Routes" "byRounds" "[I" ∈ AL := AL_in (T1 (List.mem_of_getElem? (i := 151) rfl)) rfl
theorem fX6_15 : FL RX6 15 6 1 (.array .int) 1 := ⟨RX6, TX6, 3, tyX6, rfl, by decide, uwX6, tyX6_ok, nmX6, w1_151, rfl, Or.inr (Or.inl ⟨rfl, rfl, rfl⟩)⟩
theorem w1_152 : Cond.fieldLink RX8 148 "SofaRailway$Routes" "byRounds" "[I" ∈ AL := AL_in (T1 (List.mem_of_getElem? (i := 152) rfl)) rfl
theorem fX8_148 : FL RX8 148 6 1 (.array .int) 2 := ⟨RX6, TX6, 3, tyX6, rfl, by decide, uwX6, tyX6_ok, nmX6, w1_152, rfl, Or.inr (Or.inr rfl)⟩
theorem w1_153 : Cond.fieldLink RX6 18 "SofaRailway$Routes" "groups" "[I" ∈ AL := AL_in (T1 (List.mem_of_getElem? (i := 153) rfl)) rfl
theorem fX6_18 : FL RX6 18 6 2 (.array .int) 1 := ⟨RX6, TX6, 3, tyX6, rfl, by decide, uwX6, tyX6_ok, nmX6, w1_153, rfl, Or.inr (Or.inl ⟨rfl, rfl, rfl⟩)⟩
theorem w1_169 : Cond.fieldLink RX7 12 "SofaRailway$Traffic" "routes" "LSofaRailway$Routes;" ∈ AL := AL_in (T1 (List.mem_of_getElem? (i := 169) rfl)) rfl
theorem fX7_12 : FL RX7 12 7 0 (.object "SofaRailway$Routes") 1 := ⟨RX7, TX7, 3, tyX7, rfl, by decide, uwX7, tyX7_ok, nmX7, w1_169, rfl, Or.inr (Or.inl ⟨rfl, rfl, rfl⟩)⟩
theorem w1_170 : Cond.fieldLink RX7 18 "SofaRailway$Traffic" "blockers" "[I" ∈ AL := AL_in (T1 (List.mem_of_getElem? (i := 170) rfl)) rfl
theorem fX7_18 : FL RX7 18 7 1 (.array .int) 1 := ⟨RX7, TX7, 3, tyX7, rfl, by decide, uwX7, tyX7_ok, nmX7, w1_170, rfl, Or.inr (Or.inl ⟨rfl, rfl, rfl⟩)⟩
theorem w1_171 : Cond.fieldLink RX7 22 "SofaRailway$Traffic" "table" "[I" ∈ AL := AL_in (T1 (List.mem_of_getElem? (i := 171) rfl)) rfl
theorem fX7_22 : FL RX7 22 7 2 (.array .int) 1 := ⟨RX7, TX7, 3, tyX7, rfl, by decide, uwX7, tyX7_ok, nmX7, w1_171, rfl, Or.inr (Or.inl ⟨rfl, rfl, rfl⟩)⟩
theorem w1_187 : Cond.fieldLink RX2 9 "SofaRailway$CommandReader" "text" "[C" ∈ AL := AL_in (T1 (List.mem_of_getElem? (i := 187) rfl)) rfl
theorem fX2_9 : FL RX2 9 2 0 (.array .char) 1 := ⟨RX2, TX2, 7, tyX2, rfl, by decide, uwX2, tyX2_ok, nmX2, w1_187, rfl, Or.inr (Or.inl ⟨rfl, rfl, rfl⟩)⟩
theorem w1_188 : Cond.fieldLink RX2 15 "SofaRailway$CommandReader" "size" "I" ∈ AL := AL_in (T1 (List.mem_of_getElem? (i := 188) rfl)) rfl
theorem fX2_15 : FL RX2 15 2 1 .int 0 := ⟨RX2, TX2, 7, tyX2, rfl, by decide, uwX2, tyX2_ok, nmX2, w1_188, rfl, Or.inl ⟨rfl, rfl⟩⟩
theorem w1_189 : Cond.fieldLink RX8 289 "SofaRailway$CommandReader" "size" "I" ∈ AL := AL_in (T1 (List.mem_of_getElem? (i := 189) rfl)) rfl
theorem fX8_289 : FL RX8 289 2 1 .int 0 := ⟨RX2, TX2, 7, tyX2, rfl, by decide, uwX2, tyX2_ok, nmX2, w1_189, rfl, Or.inl ⟨rfl, rfl⟩⟩
theorem w1_190 : Cond.fieldLink RX2 19 "SofaRailway$CommandReader" "position" "I" ∈ AL := AL_in (T1 (List.mem_of_getElem? (i := 190) rfl)) rfl
theorem fX2_19 : FL RX2 19 2 2 .int 0 := ⟨RX2, TX2, 7, tyX2, rfl, by decide, uwX2, tyX2_ok, nmX2, w1_190, rfl, Or.inl ⟨rfl, rfl⟩⟩
theorem w1_191 : Cond.fieldLink RX2 22 "SofaRailway$CommandReader" "ended" "Z" ∈ AL := AL_in (T1 (List.mem_of_getElem? (i := 191) rfl)) rfl
theorem fX2_22 : FL RX2 22 2 3 .boolean 0 := ⟨RX2, TX2, 7, tyX2, rfl, by decide, uwX2, tyX2_ok, nmX2, w1_191, rfl, Or.inl ⟨rfl, rfl⟩⟩
theorem w1_192 : Cond.fieldLink RX2 32 "SofaRailway$CommandReader" "command" "LSofaRailway$Command;" ∈ AL := AL_in (T1 (List.mem_of_getElem? (i := 192) rfl)) rfl
theorem fX2_32 : FL RX2 32 2 4 (.object "SofaRailway$Command") 0 := ⟨RX2, TX2, 7, tyX2, rfl, by decide, uwX2, tyX2_ok, nmX2, w1_192, rfl, Or.inl ⟨rfl, rfl⟩⟩
theorem w1_193 : Cond.fieldLink RX8 306 "SofaRailway$CommandReader" "command" "LSofaRailway$Command;" ∈ AL := AL_in (T1 (List.mem_of_getElem? (i := 193) rfl)) rfl
theorem fX8_306 : FL RX8 306 2 4 (.object "SofaRailway$Command") 0 := ⟨RX2, TX2, 7, tyX2, rfl, by decide, uwX2, tyX2_ok, nmX2, w1_193, rfl, Or.inl ⟨rfl, rfl⟩⟩
theorem w1_194 : Cond.fieldLink RX2 35 "SofaRailway$CommandReader" "first" "I" ∈ AL := AL_in (T1 (List.mem_of_getElem? (i := 194) rfl)) rfl
theorem fX2_35 : FL RX2 35 2 5 .int 0 := ⟨RX2, TX2, 7, tyX2, rfl, by decide, uwX2, tyX2_ok, nmX2, w1_194, rfl, Or.inl ⟨rfl, rfl⟩⟩
theorem w1_195 : Cond.fieldLink RX8 310 "SofaRailway$CommandReader" "first" "I" ∈ AL := AL_in (T1 (List.mem_of_getElem? (i := 195) rfl)) rfl
theorem fX8_310 : FL RX8 310 2 5 .int 0 := ⟨RX2, TX2, 7, tyX2, rfl, by decide, uwX2, tyX2_ok, nmX2, w1_195, rfl, Or.inl ⟨rfl, rfl⟩⟩
theorem w1_196 : Cond.fieldLink RX2 38 "SofaRailway$CommandReader" "second" "I" ∈ AL := AL_in (T1 (List.mem_of_getElem? (i := 196) rfl)) rfl
theorem fX2_38 : FL RX2 38 2 6 .int 0 := ⟨RX2, TX2, 7, tyX2, rfl, by decide, uwX2, tyX2_ok, nmX2, w1_196, rfl, Or.inl ⟨rfl, rfl⟩⟩
theorem w1_197 : Cond.fieldLink RX8 313 "SofaRailway$CommandReader" "second" "I" ∈ AL := AL_in (T1 (List.mem_of_getElem? (i := 197) rfl)) rfl
theorem fX8_313 : FL RX8 313 2 6 .int 0 := ⟨RX2, TX2, 7, tyX2, rfl, by decide, uwX2, tyX2_ok, nmX2, w1_197, rfl, Or.inl ⟨rfl, rfl⟩⟩
theorem w1_220 : Cond.fieldLink RX5 9 "SofaRailway$Output" "signs" "[C" ∈ AL := AL_in (T1 (List.mem_of_getElem? (i := 220) rfl)) rfl
theorem fX5_9 : FL RX5 9 5 0 (.array .char) 1 := ⟨RX5, TX5, 2, tyX5, rfl, by decide, uwX5, tyX5_ok, nmX5, w1_220, rfl, Or.inr (Or.inl ⟨rfl, rfl, rfl⟩)⟩
theorem w1_221 : Cond.fieldLink RX5 15 "SofaRailway$Output" "size" "I" ∈ AL := AL_in (T1 (List.mem_of_getElem? (i := 221) rfl)) rfl
theorem fX5_15 : FL RX5 15 5 1 .int 0 := ⟨RX5, TX5, 2, tyX5, rfl, by decide, uwX5, tyX5_ok, nmX5, w1_221, rfl, Or.inl ⟨rfl, rfl⟩⟩
theorem w1_227 : Cond.fieldLink RX8 12 "SofaRailway" "now" "LSofaRailway$Layout;" ∈ AL := AL_in (T1 (List.mem_of_getElem? (i := 227) rfl)) rfl
theorem fX8_12 : FL RX8 12 8 0 (.object "SofaRailway$Layout") 1 := ⟨RX8, TX8, 11, tyX8, rfl, by decide, uwX8, tyX8_ok, nmX8, w1_227, rfl, Or.inr (Or.inl ⟨rfl, rfl, rfl⟩)⟩
theorem w1_228 : Cond.fieldLink RX8 16 "SofaRailway" "saved" "LSofaRailway$Layout;" ∈ AL := AL_in (T1 (List.mem_of_getElem? (i := 228) rfl)) rfl
theorem fX8_16 : FL RX8 16 8 1 (.object "SofaRailway$Layout") 1 := ⟨RX8, TX8, 11, tyX8, rfl, by decide, uwX8, tyX8_ok, nmX8, w1_228, rfl, Or.inr (Or.inl ⟨rfl, rfl, rfl⟩)⟩
theorem w1_229 : Cond.fieldLink RX8 19 "SofaRailway" "forecast" "LSofaRailway$Layout;" ∈ AL := AL_in (T1 (List.mem_of_getElem? (i := 229) rfl)) rfl
theorem fX8_19 : FL RX8 19 8 2 (.object "SofaRailway$Layout") 1 := ⟨RX8, TX8, 11, tyX8, rfl, by decide, uwX8, tyX8_ok, nmX8, w1_229, rfl, Or.inr (Or.inl ⟨rfl, rfl, rfl⟩)⟩
theorem w1_230 : Cond.fieldLink RX8 25 "SofaRailway" "history" "LSofaRailway$History;" ∈ AL := AL_in (T1 (List.mem_of_getElem? (i := 230) rfl)) rfl
theorem fX8_25 : FL RX8 25 8 3 (.object "SofaRailway$History") 1 := ⟨RX8, TX8, 11, tyX8, rfl, by decide, uwX8, tyX8_ok, nmX8, w1_230, rfl, Or.inr (Or.inl ⟨rfl, rfl, rfl⟩)⟩
theorem w1_231 : Cond.fieldLink RX8 32 "SofaRailway" "routes" "LSofaRailway$Routes;" ∈ AL := AL_in (T1 (List.mem_of_getElem? (i := 231) rfl)) rfl
theorem fX8_32 : FL RX8 32 8 4 (.object "SofaRailway$Routes") 1 := ⟨RX8, TX8, 11, tyX8, rfl, by decide, uwX8, tyX8_ok, nmX8, w1_231, rfl, Or.inr (Or.inl ⟨rfl, rfl, rfl⟩)⟩
theorem w1_232 : Cond.fieldLink RX8 39 "SofaRailway" "traffic" "LSofaRailway$Traffic;" ∈ AL := AL_in (T1 (List.mem_of_getElem? (i := 232) rfl)) rfl
theorem fX8_39 : FL RX8 39 8 5 (.object "SofaRailway$Traffic") 1 := ⟨RX8, TX8, 11, tyX8, rfl, by decide, uwX8, tyX8_ok, nmX8, w1_232, rfl, Or.inr (Or.inl ⟨rfl, rfl, rfl⟩)⟩
theorem w1_233 : Cond.fieldLink RX8 46 "SofaRailway" "reader" "LSofaRailway$CommandReader;" ∈ AL := AL_in (T1 (List.mem_of_getElem? (i := 233) rfl)) rfl
theorem fX8_46 : FL RX8 46 8 6 (.object "SofaRailway$CommandReader") 1 := ⟨RX8, TX8, 11, tyX8, rfl, by decide, uwX8, tyX8_ok, nmX8, w1_233, rfl, Or.inr (Or.inl ⟨rfl, rfl, rfl⟩)⟩
theorem w1_234 : Cond.fieldLink RX8 53 "SofaRailway" "output" "LSofaRailway$Output;" ∈ AL := AL_in (T1 (List.mem_of_getElem? (i := 234) rfl)) rfl
theorem fX8_53 : FL RX8 53 8 7 (.object "SofaRailway$Output") 1 := ⟨RX8, TX8, 11, tyX8, rfl, by decide, uwX8, tyX8_ok, nmX8, w1_234, rfl, Or.inr (Or.inl ⟨rfl, rfl, rfl⟩)⟩
theorem w1_235 : Cond.fieldLink RX8 57 "SofaRailway" "hasSaved" "Z" ∈ AL := AL_in (T1 (List.mem_of_getElem? (i := 235) rfl)) rfl
theorem fX8_57 : FL RX8 57 8 8 .boolean 0 := ⟨RX8, TX8, 11, tyX8, rfl, by decide, uwX8, tyX8_ok, nmX8, w1_235, rfl, Or.inl ⟨rfl, rfl⟩⟩
theorem w1_236 : Cond.fieldLink RX8 61 "SofaRailway" "keptErrorPosition" "I" ∈ AL := AL_in (T1 (List.mem_of_getElem? (i := 236) rfl)) rfl
theorem fX8_61 : FL RX8 61 8 9 .int 0 := ⟨RX8, TX8, 11, tyX8, rfl, by decide, uwX8, tyX8_ok, nmX8, w1_236, rfl, Or.inl ⟨rfl, rfl⟩⟩
theorem w1_237 : Cond.fieldLink RX8 65 "SofaRailway" "keptFailedCommand" "I" ∈ AL := AL_in (T1 (List.mem_of_getElem? (i := 237) rfl)) rfl
theorem fX8_65 : FL RX8 65 8 10 .int 0 := ⟨RX8, TX8, 11, tyX8, rfl, by decide, uwX8, tyX8_ok, nmX8, w1_237, rfl, Or.inl ⟨rfl, rfl⟩⟩
theorem w1_33 : Cond.classLink RL 15 RX8 ∈ AL := AL_in (T1 (List.mem_of_getElem? (i := 33) rfl)) rfl
theorem w1_34 : Cond.instantiable RX8 11 ∈ AL := AL_in (T1 (List.mem_of_getElem? (i := 34) rfl)) rfl
theorem nL_15 : NL RL 15 8 11 [.null, .null, .null, .null, .null, .null, .null, .null, .int 0, .int 0, .int 0] := ⟨RX8, TX8, tyX8, rfl, uwX8, tyX8_ok, w1_33, w1_34, w1_1, rfl⟩
theorem w1_41 : Cond.classLink RX8 9 RX4 ∈ AL := AL_in (T1 (List.mem_of_getElem? (i := 41) rfl)) rfl
theorem w1_42 : Cond.instantiable RX4 15 ∈ AL := AL_in (T1 (List.mem_of_getElem? (i := 42) rfl)) rfl
theorem nX8_9 : NL RX8 9 4 15 [.int 0, .int 0, .int 0, .int 0, .int 0, .int 0, .int 0, .null, .null, .null, .null, .null, .null, .null, .null] := ⟨RX4, TX4, tyX4, rfl, uwX4, tyX4_ok, w1_41, w1_42, w1_2, rfl⟩
theorem w1_122 : Cond.classLink RX8 22 RX3 ∈ AL := AL_in (T1 (List.mem_of_getElem? (i := 122) rfl)) rfl
theorem w1_123 : Cond.instantiable RX3 3 ∈ AL := AL_in (T1 (List.mem_of_getElem? (i := 123) rfl)) rfl
theorem nX8_22 : NL RX8 22 3 3 [.null, .int 0, .int 0] := ⟨RX3, TX3, tyX3, rfl, uwX3, tyX3_ok, w1_122, w1_123, w1_3, rfl⟩
theorem w1_128 : Cond.classLink RX3 9 RX4 ∈ AL := AL_in (T1 (List.mem_of_getElem? (i := 128) rfl)) rfl
theorem nX3_9 : NL RX3 9 4 15 [.int 0, .int 0, .int 0, .int 0, .int 0, .int 0, .int 0, .null, .null, .null, .null, .null, .null, .null, .null] := ⟨RX4, TX4, tyX4, rfl, uwX4, tyX4_ok, w1_128, w1_42, w1_2, rfl⟩
theorem w1_142 : Cond.classLink RX8 29 RX6 ∈ AL := AL_in (T1 (List.mem_of_getElem? (i := 142) rfl)) rfl
theorem w1_143 : Cond.instantiable RX6 3 ∈ AL := AL_in (T1 (List.mem_of_getElem? (i := 143) rfl)) rfl
theorem nX8_29 : NL RX8 29 6 3 [.null, .null, .null] := ⟨RX6, TX6, tyX6, rfl, uwX6, tyX6_ok, w1_142, w1_143, w1_4, rfl⟩
theorem w1_161 : Cond.classLink RX8 36 RX7 ∈ AL := AL_in (T1 (List.mem_of_getElem? (i := 161) rfl)) rfl
theorem w1_162 : Cond.instantiable RX7 3 ∈ AL := AL_in (T1 (List.mem_of_getElem? (i := 162) rfl)) rfl
theorem nX8_36 : NL RX8 36 7 3 [.null, .null, .null] := ⟨RX7, TX7, tyX7, rfl, uwX7, tyX7_ok, w1_161, w1_162, w1_5, rfl⟩
theorem w1_167 : Cond.classLink RX7 9 RX6 ∈ AL := AL_in (T1 (List.mem_of_getElem? (i := 167) rfl)) rfl
theorem nX7_9 : NL RX7 9 6 3 [.null, .null, .null] := ⟨RX6, TX6, tyX6, rfl, uwX6, tyX6_ok, w1_167, w1_143, w1_4, rfl⟩
theorem w1_179 : Cond.classLink RX8 43 RX2 ∈ AL := AL_in (T1 (List.mem_of_getElem? (i := 179) rfl)) rfl
theorem w1_180 : Cond.instantiable RX2 7 ∈ AL := AL_in (T1 (List.mem_of_getElem? (i := 180) rfl)) rfl
theorem nX8_43 : NL RX8 43 2 7 [.null, .int 0, .int 0, .int 0, .null, .int 0, .int 0] := ⟨RX2, TX2, tyX2, rfl, uwX2, tyX2_ok, w1_179, w1_180, w1_6, rfl⟩
theorem w1_214 : Cond.classLink RX8 50 RX5 ∈ AL := AL_in (T1 (List.mem_of_getElem? (i := 214) rfl)) rfl
theorem w1_215 : Cond.instantiable RX5 2 ∈ AL := AL_in (T1 (List.mem_of_getElem? (i := 215) rfl)) rfl
theorem nX8_50 : NL RX8 50 5 2 [.null, .int 0] := ⟨RX5, TX5, tyX5, rfl, uwX5, tyX5_ok, w1_214, w1_215, w1_9, rfl⟩
theorem w1_121 : Cond.arrayClass .int ∈ AL := AL_in (T1 (List.mem_of_getElem? (i := 121) rfl)) rfl
theorem ac_int : Cond.arrayClass .int ∈ AL := w1_121
theorem w1_185 : Cond.fieldLink RX2 26 "SofaRailway$Command" "BLOCK" "LSofaRailway$Command;" ∈ AL := AL_in (T1 (List.mem_of_getElem? (i := 185) rfl)) rfl
theorem gX2_26 : Cond.fieldLink RX2 26 "SofaRailway$Command" "BLOCK" "LSofaRailway$Command;" ∈ AL := w1_185
theorem w1_213 : Cond.arrayClass .char ∈ AL := AL_in (T1 (List.mem_of_getElem? (i := 213) rfl)) rfl
theorem ac_char : Cond.arrayClass .char ∈ AL := w1_213
theorem w2_43 : Cond.constant RL 7 (40503) ∈ AL := AL_in (T2 (List.mem_of_getElem? (i := 43) rfl)) rfl
theorem kcL_7 : Cond.constant RL 7 (40503) ∈ AL := w2_43
theorem w2_122 : Cond.arrayClass .byte ∈ AL := AL_in (T2 (List.mem_of_getElem? (i := 122) rfl)) rfl
theorem ac_byte : Cond.arrayClass .byte ∈ AL := w2_122
theorem w3_116 : Cond.constant RJ6 265 (1431655765) ∈ AL := AL_in (T3 (List.mem_of_getElem? (i := 116) rfl)) rfl
theorem kcJ6_265 : Cond.constant RJ6 265 (1431655765) ∈ AL := w3_116
theorem w3_117 : Cond.constant RJ6 266 (858993459) ∈ AL := AL_in (T3 (List.mem_of_getElem? (i := 117) rfl)) rfl
theorem kcJ6_266 : Cond.constant RJ6 266 (858993459) ∈ AL := w3_117
theorem w3_118 : Cond.constant RJ6 267 (252645135) ∈ AL := AL_in (T3 (List.mem_of_getElem? (i := 118) rfl)) rfl
theorem kcJ6_267 : Cond.constant RJ6 267 (252645135) ∈ AL := w3_118
theorem w4_3 : Cond.fieldLink RJ5 18 "java/lang/String" "COMPACT_STRINGS" "Z" ∈ AL := AL_in (T4 (List.mem_of_getElem? (i := 3) rfl)) rfl
theorem gJ5_18 : Cond.fieldLink RJ5 18 "java/lang/String" "COMPACT_STRINGS" "Z" ∈ AL := w4_3
theorem w4_11 : Cond.constant RJ2 20 (1073741823) ∈ AL := AL_in (T4 (List.mem_of_getElem? (i := 11) rfl)) rfl
theorem kcJ2_20 : Cond.constant RJ2 20 (1073741823) ∈ AL := w4_11
theorem w4_12 : Cond.fieldLink RJ5 15 "java/lang/AbstractStringBuilder" "value" "[B" ∈ AL := AL_in (T4 (List.mem_of_getElem? (i := 12) rfl)) rfl
theorem gJ5_15 : Cond.fieldLink RJ5 15 "java/lang/AbstractStringBuilder" "value" "[B" ∈ AL := w4_12
theorem w4_13 : Cond.fieldLink RJ5 22 "java/lang/AbstractStringBuilder" "coder" "B" ∈ AL := AL_in (T4 (List.mem_of_getElem? (i := 13) rfl)) rfl
theorem gJ5_22 : Cond.fieldLink RJ5 22 "java/lang/AbstractStringBuilder" "coder" "B" ∈ AL := w4_13
theorem w4_14 : Cond.fieldLink RJ0 1048 "java/lang/AbstractStringBuilder" "maybeLatin1" "Z" ∈ AL := AL_in (T4 (List.mem_of_getElem? (i := 14) rfl)) rfl
theorem gJ0_1048 : Cond.fieldLink RJ0 1048 "java/lang/AbstractStringBuilder" "maybeLatin1" "Z" ∈ AL := w4_14
theorem w4_15 : Cond.fieldLink RJ5 79 "java/lang/AbstractStringBuilder" "count" "I" ∈ AL := AL_in (T4 (List.mem_of_getElem? (i := 15) rfl)) rfl
theorem gJ5_79 : Cond.fieldLink RJ5 79 "java/lang/AbstractStringBuilder" "count" "I" ∈ AL := w4_15
theorem w4_51 : Cond.constant RJ8 200 (2147483639) ∈ AL := AL_in (T4 (List.mem_of_getElem? (i := 51) rfl)) rfl
theorem kcJ8_200 : Cond.constant RJ8 200 (2147483639) ∈ AL := w4_51
theorem w4_55 : Cond.constant RJ5 39 (2147483647) ∈ AL := AL_in (T4 (List.mem_of_getElem? (i := 55) rfl)) rfl
theorem kcJ5_39 : Cond.constant RJ5 39 (2147483647) ∈ AL := w4_55
theorem w4_85 : Cond.fieldLink RJ0 1053 "jdk/internal/util/Preconditions" "SIOOBE_FORMATTER" "Ljava/util/function/BiFunction;" ∈ AL := AL_in (T4 (List.mem_of_getElem? (i := 85) rfl)) rfl
theorem gJ0_1053 : Cond.fieldLink RJ0 1053 "jdk/internal/util/Preconditions" "SIOOBE_FORMATTER" "Ljava/util/function/BiFunction;" ∈ AL := w4_85
theorem w4_93 : Cond.fieldLink RJ2 44 "java/lang/StringUTF16" "$assertionsDisabled" "Z" ∈ AL := AL_in (T4 (List.mem_of_getElem? (i := 93) rfl)) rfl
theorem gJ2_44 : Cond.fieldLink RJ2 44 "java/lang/StringUTF16" "$assertionsDisabled" "Z" ∈ AL := w4_93
theorem w4_95 : Cond.fieldLink RJ2 59 "java/lang/StringUTF16" "HI_BYTE_SHIFT" "I" ∈ AL := AL_in (T4 (List.mem_of_getElem? (i := 95) rfl)) rfl
theorem gJ2_59 : Cond.fieldLink RJ2 59 "java/lang/StringUTF16" "HI_BYTE_SHIFT" "I" ∈ AL := w4_95
theorem w4_97 : Cond.fieldLink RJ2 63 "java/lang/StringUTF16" "LO_BYTE_SHIFT" "I" ∈ AL := AL_in (T4 (List.mem_of_getElem? (i := 97) rfl)) rfl
theorem gJ2_63 : Cond.fieldLink RJ2 63 "java/lang/StringUTF16" "LO_BYTE_SHIFT" "I" ∈ AL := w4_97
theorem w4_107 : Cond.fieldLink RJ0 38 "java/lang/String" "COMPACT_STRINGS" "Z" ∈ AL := AL_in (T4 (List.mem_of_getElem? (i := 107) rfl)) rfl
theorem gJ0_38 : Cond.fieldLink RJ0 38 "java/lang/String" "COMPACT_STRINGS" "Z" ∈ AL := w4_107
theorem w4_155 : Cond.fieldLink RJ6 83 "java/lang/Integer" "DigitOnes" "[B" ∈ AL := AL_in (T4 (List.mem_of_getElem? (i := 155) rfl)) rfl
theorem gJ6_83 : Cond.fieldLink RJ6 83 "java/lang/Integer" "DigitOnes" "[B" ∈ AL := w4_155
theorem w4_157 : Cond.fieldLink RJ6 87 "java/lang/Integer" "DigitTens" "[B" ∈ AL := AL_in (T4 (List.mem_of_getElem? (i := 157) rfl)) rfl
theorem gJ6_87 : Cond.fieldLink RJ6 87 "java/lang/Integer" "DigitTens" "[B" ∈ AL := w4_157
theorem w4_165 : Cond.fieldLink RJ2 403 "java/lang/Integer" "DigitOnes" "[B" ∈ AL := AL_in (T4 (List.mem_of_getElem? (i := 165) rfl)) rfl
theorem gJ2_403 : Cond.fieldLink RJ2 403 "java/lang/Integer" "DigitOnes" "[B" ∈ AL := w4_165
theorem w4_166 : Cond.fieldLink RJ2 407 "java/lang/Integer" "DigitTens" "[B" ∈ AL := AL_in (T4 (List.mem_of_getElem? (i := 166) rfl)) rfl
theorem gJ2_407 : Cond.fieldLink RJ2 407 "java/lang/Integer" "DigitTens" "[B" ∈ AL := w4_166
theorem w4_225 : Cond.fieldLink RJ0 9 "java/lang/String" "value" "[B" ∈ AL := AL_in (T4 (List.mem_of_getElem? (i := 225) rfl)) rfl
theorem gJ0_9 : Cond.fieldLink RJ0 9 "java/lang/String" "value" "[B" ∈ AL := w4_225
theorem w4_226 : Cond.fieldLink RJ0 15 "java/lang/String" "coder" "B" ∈ AL := AL_in (T4 (List.mem_of_getElem? (i := 226) rfl)) rfl
theorem gJ0_15 : Cond.fieldLink RJ0 15 "java/lang/String" "coder" "B" ∈ AL := w4_226
theorem w5_87 : Cond.fieldLink RX8 365 "SofaRailway$1" "$SwitchMap$SofaRailway$Command" "[I" ∈ AL := AL_in (T5 (List.mem_of_getElem? (i := 87) rfl)) rfl
theorem gX8_365 : Cond.fieldLink RX8 365 "SofaRailway$1" "$SwitchMap$SofaRailway$Command" "[I" ∈ AL := w5_87
theorem w6_160 : Cond.arrayClass .long ∈ AL := AL_in (T6 (List.mem_of_getElem? (i := 160) rfl)) rfl
theorem ac_long : Cond.arrayClass .long ∈ AL := w6_160
theorem w6_189 : Cond.fieldLink RX2 52 "SofaRailway$Command" "form" "Ljava/lang/String;" ∈ AL := AL_in (T6 (List.mem_of_getElem? (i := 189) rfl)) rfl
theorem gX2_52 : Cond.fieldLink RX2 52 "SofaRailway$Command" "form" "Ljava/lang/String;" ∈ AL := w6_189
theorem w6_190 : Cond.fieldLink RJx29ce0 7 "java/lang/Enum" "ordinal" "I" ∈ AL := AL_in (T6 (List.mem_of_getElem? (i := 190) rfl)) rfl
theorem gJx29ce0_7 : Cond.fieldLink RJx29ce0 7 "java/lang/Enum" "ordinal" "I" ∈ AL := w6_190
theorem clL_15 : Cond.classLink RL 15 "SofaRailway" ∈ AL := w1_33
theorem clX8_9 : Cond.classLink RX8 9 "SofaRailway$Layout" ∈ AL := w1_41
theorem clX8_22 : Cond.classLink RX8 22 "SofaRailway$History" ∈ AL := w1_122
theorem clX3_9 : Cond.classLink RX3 9 "SofaRailway$Layout" ∈ AL := w1_128
theorem clX8_29 : Cond.classLink RX8 29 "SofaRailway$Routes" ∈ AL := w1_142
theorem clX8_36 : Cond.classLink RX8 36 "SofaRailway$Traffic" ∈ AL := w1_161
theorem clX7_9 : Cond.classLink RX7 9 "SofaRailway$Routes" ∈ AL := w1_167
theorem clX8_43 : Cond.classLink RX8 43 "SofaRailway$CommandReader" ∈ AL := w1_179
theorem clX8_50 : Cond.classLink RX8 50 "SofaRailway$Output" ∈ AL := w1_214
theorem w2_47 : Cond.classLink RL 31 "java/lang/IndexOutOfBoundsException" ∈ AL := AL_in (T2 (List.mem_of_getElem? (i := 47) rfl)) rfl
theorem clL_31 : Cond.classLink RL 31 "java/lang/IndexOutOfBoundsException" ∈ AL := w2_47
theorem w2_127 : Cond.classLink RL 36 "java/util/NoSuchElementException" ∈ AL := AL_in (T2 (List.mem_of_getElem? (i := 127) rfl)) rfl
theorem clL_36 : Cond.classLink RL 36 "java/util/NoSuchElementException" ∈ AL := w2_127
theorem w2_140 : Cond.classLink RX8 267 "java/lang/IndexOutOfBoundsException" ∈ AL := AL_in (T2 (List.mem_of_getElem? (i := 140) rfl)) rfl
theorem clX8_267 : Cond.classLink RX8 267 "java/lang/IndexOutOfBoundsException" ∈ AL := w2_140
theorem w2_156 : Cond.classLink RX8 229 "java/util/NoSuchElementException" ∈ AL := AL_in (T2 (List.mem_of_getElem? (i := 156) rfl)) rfl
theorem clX8_229 : Cond.classLink RX8 229 "java/util/NoSuchElementException" ∈ AL := w2_156
theorem w3_11 : Cond.classLink RL 20 "java/lang/IllegalArgumentException" ∈ AL := AL_in (T3 (List.mem_of_getElem? (i := 11) rfl)) rfl
theorem clL_20 : Cond.classLink RL 20 "java/lang/IllegalArgumentException" ∈ AL := w3_11
theorem w3_12 : Cond.classLink RL 22 "java/lang/IllegalStateException" ∈ AL := AL_in (T3 (List.mem_of_getElem? (i := 12) rfl)) rfl
theorem clL_22 : Cond.classLink RL 22 "java/lang/IllegalStateException" ∈ AL := w3_12
theorem w3_31 : Cond.classLink RX8 294 "java/lang/IllegalArgumentException" ∈ AL := AL_in (T3 (List.mem_of_getElem? (i := 31) rfl)) rfl
theorem clX8_294 : Cond.classLink RX8 294 "java/lang/IllegalArgumentException" ∈ AL := w3_31
theorem w3_47 : Cond.classLink RX8 284 "java/lang/IllegalStateException" ∈ AL := AL_in (T3 (List.mem_of_getElem? (i := 47) rfl)) rfl
theorem clX8_284 : Cond.classLink RX8 284 "java/lang/IllegalStateException" ∈ AL := w3_47
theorem w3_63 : Cond.classLink RX8 323 "java/lang/UnsupportedOperationException" ∈ AL := AL_in (T3 (List.mem_of_getElem? (i := 63) rfl)) rfl
theorem clX8_323 : Cond.classLink RX8 323 "java/lang/UnsupportedOperationException" ∈ AL := w3_63
theorem w3_133 : Cond.classLink RL 41 "java/lang/UnsupportedOperationException" ∈ AL := AL_in (T3 (List.mem_of_getElem? (i := 133) rfl)) rfl
theorem clL_41 : Cond.classLink RL 41 "java/lang/UnsupportedOperationException" ∈ AL := w3_133
theorem w3_234 : Cond.classLink RL 255 "java/lang/StringBuilder" ∈ AL := AL_in (T3 (List.mem_of_getElem? (i := 234) rfl)) rfl
theorem clL_255 : Cond.classLink RL 255 "java/lang/StringBuilder" ∈ AL := w3_234
theorem w4_65 : Cond.classLink RJ7 311 "[B" ∈ AL := AL_in (T4 (List.mem_of_getElem? (i := 65) rfl)) rfl
theorem clJ7_311 : Cond.classLink RJ7 311 "[B" ∈ AL := w4_65
theorem w4_173 : Cond.classLink RJ4 18 "java/lang/String" ∈ AL := AL_in (T4 (List.mem_of_getElem? (i := 173) rfl)) rfl
theorem clJ4_18 : Cond.classLink RJ4 18 "java/lang/String" ∈ AL := w4_173
theorem w4_204 : Cond.classLink RJ7 43 "java/lang/IllegalArgumentException" ∈ AL := AL_in (T4 (List.mem_of_getElem? (i := 204) rfl)) rfl
theorem clJ7_43 : Cond.classLink RJ7 43 "java/lang/IllegalArgumentException" ∈ AL := w4_204
theorem w4_205 : Cond.classLink RJ7 45 "java/lang/StringBuilder" ∈ AL := AL_in (T4 (List.mem_of_getElem? (i := 205) rfl)) rfl
theorem clJ7_45 : Cond.classLink RJ7 45 "java/lang/StringBuilder" ∈ AL := w4_205
theorem w6_9 : Cond.classLink RL 137 "java/lang/ArithmeticException" ∈ AL := AL_in (T6 (List.mem_of_getElem? (i := 9) rfl)) rfl
theorem clL_137 : Cond.classLink RL 137 "java/lang/ArithmeticException" ∈ AL := w6_9
theorem w6_27 : Cond.classLink RX8 242 "java/lang/ArithmeticException" ∈ AL := AL_in (T6 (List.mem_of_getElem? (i := 27) rfl)) rfl
theorem clX8_242 : Cond.classLink RX8 242 "java/lang/ArithmeticException" ∈ AL := w6_27
theorem w6_68 : Cond.classLink RL 315 "[[I" ∈ AL := AL_in (T6 (List.mem_of_getElem? (i := 68) rfl)) rfl
theorem clL_315 : Cond.classLink RL 315 "[[I" ∈ AL := w6_68
end JLINKS

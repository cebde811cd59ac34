section JLINKS
theorem T0 {w : Cond} (h : w ∈ k2_sels lw_privs) : w ∈ lw_tbl := List.mem_append_left _ h
theorem T1 {w : Cond} (h : w ∈ tables_1_1) : w ∈ lw_tbl := List.mem_append_right _ (List.mem_append_left _ h)
theorem T2 {w : Cond} (h : w ∈ tables_1_2) : w ∈ lw_tbl := List.mem_append_right _ (List.mem_append_right _ (List.mem_append_left _ h))
theorem T3 {w : Cond} (h : w ∈ tables_1_3) : w ∈ lw_tbl := List.mem_append_right _ (List.mem_append_right _ (List.mem_append_right _ (List.mem_append_left _ h)))
theorem T4 {w : Cond} (h : w ∈ tables_1_4) : w ∈ lw_tbl := List.mem_append_right _ (List.mem_append_right _ (List.mem_append_right _ (List.mem_append_right _ (List.mem_append_left _ h))))
theorem T5 {w : Cond} (h : w ∈ tables_1_5) : w ∈ lw_tbl := List.mem_append_right _ (List.mem_append_right _ (List.mem_append_right _ (List.mem_append_right _ (List.mem_append_right _ (List.mem_append_left _ h)))))
theorem T6 {w : Cond} (h : w ∈ tables_1_6) : w ∈ lw_tbl := List.mem_append_right _ (List.mem_append_right _ (List.mem_append_right _ (List.mem_append_right _ (List.mem_append_right _ (List.mem_append_right _ (List.mem_append_left _ h))))))
theorem T7 {w : Cond} (h : w ∈ tables_1_7) : w ∈ lw_tbl := List.mem_append_right _ (List.mem_append_right _ (List.mem_append_right _ (List.mem_append_right _ (List.mem_append_right _ (List.mem_append_right _ (List.mem_append_right _ (List.mem_append_left _ h)))))))
theorem T8 {w : Cond} (h : w ∈ tables_1_8) : w ∈ lw_tbl := List.mem_append_right _ (List.mem_append_right _ (List.mem_append_right _ (List.mem_append_right _ (List.mem_append_right _ (List.mem_append_right _ (List.mem_append_right _ (List.mem_append_right _ h)))))))
abbrev mX2_init : MI := (yX2_init, cX2_init, 1, none, [])
theorem w1_180 : Cond.code yX2_init cX2_init 1 none ∈ AL := AL_in (T1 (List.mem_of_getElem? (i := 180) rfl)) rfl
theorem w1_6 : Cond.initialized RX2 ∈ AL := AL_in (T1 (List.mem_of_getElem? (i := 6) rfl)) rfl
theorem YX2_init : YL mX2_init 0 := ⟨rfl, w1_180, w1_6, ⟨by decide, by decide, by decide +kernel⟩, by decide⟩
abbrev mX2_append : MI := (yX2_append, cX2_append, 2, (some .boolean), [])
theorem w5_46 : Cond.code yX2_append cX2_append 2 (some .boolean) ∈ AL := AL_in (T5 (List.mem_of_getElem? (i := 46) rfl)) rfl
theorem YX2_append : YL mX2_append 1 := ⟨rfl, w5_46, w1_6, ⟨by decide, by decide, by decide +kernel⟩, by decide⟩
abbrev mX2_clear : MI := (yX2_clear, cX2_clear, 1, none, [])
theorem w5_139 : Cond.code yX2_clear cX2_clear 1 none ∈ AL := AL_in (T5 (List.mem_of_getElem? (i := 139) rfl)) rfl
theorem YX2_clear : YL mX2_clear 0 := ⟨rfl, w5_139, w1_6, ⟨by decide, by decide, by decide +kernel⟩, by decide⟩
abbrev mX2_rewind : MI := (yX2_rewind, cX2_rewind, 1, none, [])
theorem w5_62 : Cond.code yX2_rewind cX2_rewind 1 none ∈ AL := AL_in (T5 (List.mem_of_getElem? (i := 62) rfl)) rfl
theorem YX2_rewind : YL mX2_rewind 0 := ⟨rfl, w5_62, w1_6, ⟨by decide, by decide, by decide +kernel⟩, by decide⟩
abbrev mX2_findError : MI := (yX2_findError, cX2_findError, 2, (some .int), [])
theorem w5_58 : Cond.code yX2_findError cX2_findError 2 (some .int) ∈ AL := AL_in (T5 (List.mem_of_getElem? (i := 58) rfl)) rfl
theorem YX2_findError : YL mX2_findError 0 := ⟨rfl, w5_58, w1_6, ⟨by decide, by decide, by decide +kernel⟩, by decide⟩
abbrev mX2_readCommand : MI := (yX2_readCommand, cX2_readCommand, 7, (some .boolean), [])
theorem w5_66 : Cond.code yX2_readCommand cX2_readCommand 7 (some .boolean) ∈ AL := AL_in (T5 (List.mem_of_getElem? (i := 66) rfl)) rfl
theorem YX2_readCommand : YL mX2_readCommand 0 := ⟨rfl, w5_66, w1_6, ⟨by decide, by decide, by decide +kernel⟩, by decide⟩
abbrev mX2_closeCommand : MI := (yX2_closeCommand, cX2_closeCommand, 2, (some .boolean), [])
theorem w5_132 : Cond.code yX2_closeCommand cX2_closeCommand 2 (some .boolean) ∈ AL := AL_in (T5 (List.mem_of_getElem? (i := 132) rfl)) rfl
theorem YX2_closeCommand : YL mX2_closeCommand 1 := ⟨rfl, w5_132, w1_6, ⟨by decide, by decide, by decide +kernel⟩, by decide⟩
abbrev mX2_match : MI := (yX2_match, cX2_match, 8, (some .int), [])
theorem w5_72 : Cond.code yX2_match cX2_match 8 (some .int) ∈ AL := AL_in (T5 (List.mem_of_getElem? (i := 72) rfl)) rfl
theorem YX2_match : YL mX2_match 2 := ⟨rfl, w5_72, w1_6, ⟨by decide, by decide, by decide +kernel⟩, by decide⟩
abbrev mX2_putNumber : MI := (yX2_putNumber, cX2_putNumber, 6, none, [])
theorem w5_128 : Cond.code yX2_putNumber cX2_putNumber 6 none ∈ AL := AL_in (T5 (List.mem_of_getElem? (i := 128) rfl)) rfl
theorem YX2_putNumber : YL mX2_putNumber 3 := ⟨rfl, w5_128, w1_6, ⟨by decide, by decide, by decide +kernel⟩, by decide⟩
abbrev mX2_isDigit : MI := (yX2_isDigit, cX2_isDigit, 2, (some .boolean), [])
theorem w5_124 : Cond.code yX2_isDigit cX2_isDigit 2 (some .boolean) ∈ AL := AL_in (T5 (List.mem_of_getElem? (i := 124) rfl)) rfl
theorem YX2_isDigit : YL mX2_isDigit 1 := ⟨rfl, w5_124, w1_6, ⟨by decide, by decide, by decide +kernel⟩, by decide⟩
abbrev mX3_init : MI := (yX3_init, cX3_init, 2, none, [])
theorem w1_123 : Cond.code yX3_init cX3_init 2 none ∈ AL := AL_in (T1 (List.mem_of_getElem? (i := 123) rfl)) rfl
theorem w1_3 : Cond.initialized RX3 ∈ AL := AL_in (T1 (List.mem_of_getElem? (i := 3) rfl)) rfl
theorem YX3_init : YL mX3_init 0 := ⟨rfl, w1_123, w1_3, ⟨by decide, by decide, by decide +kernel⟩, by decide⟩
abbrev mX3_keep : MI := (yX3_keep, cX3_keep, 2, none, [])
theorem w2_172 : Cond.code yX3_keep cX3_keep 2 none ∈ AL := AL_in (T2 (List.mem_of_getElem? (i := 172) rfl)) rfl
theorem YX3_keep : YL mX3_keep 1 := ⟨rfl, w2_172, w1_3, ⟨by decide, by decide, by decide +kernel⟩, by decide⟩
abbrev mX3_confirm : MI := (yX3_confirm, cX3_confirm, 1, none, [])
theorem w3_81 : Cond.code yX3_confirm cX3_confirm 1 none ∈ AL := AL_in (T3 (List.mem_of_getElem? (i := 81) rfl)) rfl
theorem YX3_confirm : YL mX3_confirm 0 := ⟨rfl, w3_81, w1_3, ⟨by decide, by decide, by decide +kernel⟩, by decide⟩
abbrev mX3_revert : MI := (yX3_revert, cX3_revert, 2, none, [])
theorem w5_158 : Cond.code yX3_revert cX3_revert 2 none ∈ AL := AL_in (T5 (List.mem_of_getElem? (i := 158) rfl)) rfl
theorem YX3_revert : YL mX3_revert 1 := ⟨rfl, w5_158, w1_3, ⟨by decide, by decide, by decide +kernel⟩, by decide⟩
abbrev mX3_stepBack : MI := (yX3_stepBack, cX3_stepBack, 2, (some .int), [])
theorem w5_185 : Cond.code yX3_stepBack cX3_stepBack 2 (some .int) ∈ AL := AL_in (T5 (List.mem_of_getElem? (i := 185) rfl)) rfl
theorem YX3_stepBack : YL mX3_stepBack 1 := ⟨rfl, w5_185, w1_3, ⟨by decide, by decide, by decide +kernel⟩, by decide⟩
abbrev mX3_forget : MI := (yX3_forget, cX3_forget, 1, none, [])
theorem w5_197 : Cond.code yX3_forget cX3_forget 1 none ∈ AL := AL_in (T5 (List.mem_of_getElem? (i := 197) rfl)) rfl
theorem YX3_forget : YL mX3_forget 0 := ⟨rfl, w5_197, w1_3, ⟨by decide, by decide, by decide +kernel⟩, by decide⟩
abbrev mX4_init : MI := (yX4_init, cX4_init, 1, none, [])
theorem w1_41 : Cond.code yX4_init cX4_init 1 none ∈ AL := AL_in (T1 (List.mem_of_getElem? (i := 41) rfl)) rfl
theorem w1_2 : Cond.initialized RX4 ∈ AL := AL_in (T1 (List.mem_of_getElem? (i := 2) rfl)) rfl
theorem YX4_init : YL mX4_init 0 := ⟨rfl, w1_41, w1_2, ⟨by decide, by decide, by decide +kernel⟩, by decide⟩
abbrev mX4_copyFrom : MI := (yX4_copyFrom, cX4_copyFrom, 2, none, [])
theorem w2_156 : Cond.code yX4_copyFrom cX4_copyFrom 2 none ∈ AL := AL_in (T2 (List.mem_of_getElem? (i := 156) rfl)) rfl
theorem YX4_copyFrom : YL mX4_copyFrom 1 := ⟨rfl, w2_156, w1_2, ⟨by decide, by decide, by decide +kernel⟩, by decide⟩
abbrev mX4_isBlock : MI := (yX4_isBlock, cX4_isBlock, 2, (some .boolean), [])
theorem w3_127 : Cond.code yX4_isBlock cX4_isBlock 2 (some .boolean) ∈ AL := AL_in (T3 (List.mem_of_getElem? (i := 127) rfl)) rfl
theorem YX4_isBlock : YL mX4_isBlock 1 := ⟨rfl, w3_127, w1_2, ⟨by decide, by decide, by decide +kernel⟩, by decide⟩
abbrev mX4_isTrain : MI := (yX4_isTrain, cX4_isTrain, 2, (some .boolean), [])
theorem w4_34 : Cond.code yX4_isTrain cX4_isTrain 2 (some .boolean) ∈ AL := AL_in (T4 (List.mem_of_getElem? (i := 34) rfl)) rfl
theorem YX4_isTrain : YL mX4_isTrain 1 := ⟨rfl, w4_34, w1_2, ⟨by decide, by decide, by decide +kernel⟩, by decide⟩
abbrev mX4_isJoined : MI := (yX4_isJoined, cX4_isJoined, 3, (some .boolean), [])
theorem w2_41 : Cond.code yX4_isJoined cX4_isJoined 3 (some .boolean) ∈ AL := AL_in (T2 (List.mem_of_getElem? (i := 41) rfl)) rfl
theorem YX4_isJoined : YL mX4_isJoined 2 := ⟨rfl, w2_41, w1_2, ⟨by decide, by decide, by decide +kernel⟩, by decide⟩
abbrev mX4_trainAt : MI := (yX4_trainAt, cX4_trainAt, 3, (some .int), [])
theorem w2_87 : Cond.code yX4_trainAt cX4_trainAt 3 (some .int) ∈ AL := AL_in (T2 (List.mem_of_getElem? (i := 87) rfl)) rfl
theorem YX4_trainAt : YL mX4_trainAt 1 := ⟨rfl, w2_87, w1_2, ⟨by decide, by decide, by decide +kernel⟩, by decide⟩
abbrev mX4_holderOf : MI := (yX4_holderOf, cX4_holderOf, 3, (some .int), [])
theorem w2_124 : Cond.code yX4_holderOf cX4_holderOf 3 (some .int) ∈ AL := AL_in (T2 (List.mem_of_getElem? (i := 124) rfl)) rfl
theorem YX4_holderOf : YL mX4_holderOf 1 := ⟨rfl, w2_124, w1_2, ⟨by decide, by decide, by decide +kernel⟩, by decide⟩
abbrev mX4_signalOf : MI := (yX4_signalOf, cX4_signalOf, 2, (some .char), [])
theorem w2_119 : Cond.code yX4_signalOf cX4_signalOf 2 (some .char) ∈ AL := AL_in (T2 (List.mem_of_getElem? (i := 119) rfl)) rfl
theorem YX4_signalOf : YL mX4_signalOf 1 := ⟨rfl, w2_119, w1_2, ⟨by decide, by decide, by decide +kernel⟩, by decide⟩
abbrev mX4_trainAtRank : MI := (yX4_trainAtRank, cX4_trainAtRank, 5, (some .int), [])
theorem w4_174 : Cond.code yX4_trainAtRank cX4_trainAtRank 5 (some .int) ∈ AL := AL_in (T4 (List.mem_of_getElem? (i := 174) rfl)) rfl
theorem YX4_trainAtRank : YL mX4_trainAtRank 1 := ⟨rfl, w4_174, w1_2, ⟨by decide, by decide, by decide +kernel⟩, by decide⟩
abbrev mX4_allWaits : MI := (yX4_allWaits, cX4_allWaits, 3, (some .int), [])
theorem w5_7 : Cond.code yX4_allWaits cX4_allWaits 3 (some .int) ∈ AL := AL_in (T5 (List.mem_of_getElem? (i := 7) rfl)) rfl
theorem YX4_allWaits : YL mX4_allWaits 0 := ⟨rfl, w5_7, w1_2, ⟨by decide, by decide, by decide +kernel⟩, by decide⟩
abbrev mX4_placeBlock : MI := (yX4_placeBlock, cX4_placeBlock, 4, (some .int), [])
theorem w2_177 : Cond.code yX4_placeBlock cX4_placeBlock 4 (some .int) ∈ AL := AL_in (T2 (List.mem_of_getElem? (i := 177) rfl)) rfl
theorem YX4_placeBlock : YL mX4_placeBlock 2 := ⟨rfl, w2_177, w1_2, ⟨by decide, by decide, by decide +kernel⟩, by decide⟩
abbrev mX4_join : MI := (yX4_join, cX4_join, 3, (some .int), [])
theorem w3_123 : Cond.code yX4_join cX4_join 3 (some .int) ∈ AL := AL_in (T3 (List.mem_of_getElem? (i := 123) rfl)) rfl
theorem YX4_join : YL mX4_join 2 := ⟨rfl, w3_123, w1_2, ⟨by decide, by decide, by decide +kernel⟩, by decide⟩
abbrev mX4_separate : MI := (yX4_separate, cX4_separate, 3, (some .int), [])
theorem w3_150 : Cond.code yX4_separate cX4_separate 3 (some .int) ∈ AL := AL_in (T3 (List.mem_of_getElem? (i := 150) rfl)) rfl
theorem YX4_separate : YL mX4_separate 2 := ⟨rfl, w3_150, w1_2, ⟨by decide, by decide, by decide +kernel⟩, by decide⟩
abbrev mX4_seatCat : MI := (yX4_seatCat, cX4_seatCat, 2, (some .int), [])
theorem w3_162 : Cond.code yX4_seatCat cX4_seatCat 2 (some .int) ∈ AL := AL_in (T3 (List.mem_of_getElem? (i := 162) rfl)) rfl
theorem YX4_seatCat : YL mX4_seatCat 1 := ⟨rfl, w3_162, w1_2, ⟨by decide, by decide, by decide +kernel⟩, by decide⟩
abbrev mX4_liftCat : MI := (yX4_liftCat, cX4_liftCat, 2, (some .int), [])
theorem w3_173 : Cond.code yX4_liftCat cX4_liftCat 2 (some .int) ∈ AL := AL_in (T3 (List.mem_of_getElem? (i := 173) rfl)) rfl
theorem YX4_liftCat : YL mX4_liftCat 1 := ⟨rfl, w3_173, w1_2, ⟨by decide, by decide, by decide +kernel⟩, by decide⟩
abbrev mX4_placeTrain : MI := (yX4_placeTrain, cX4_placeTrain, 4, (some .int), [])
theorem w4_58 : Cond.code yX4_placeTrain cX4_placeTrain 4 (some .int) ∈ AL := AL_in (T4 (List.mem_of_getElem? (i := 58) rfl)) rfl
theorem YX4_placeTrain : YL mX4_placeTrain 2 := ⟨rfl, w4_58, w1_2, ⟨by decide, by decide, by decide +kernel⟩, by decide⟩
abbrev mX4_dropGoal : MI := (yX4_dropGoal, cX4_dropGoal, 3, (some .int), [])
theorem w4_83 : Cond.code yX4_dropGoal cX4_dropGoal 3 (some .int) ∈ AL := AL_in (T4 (List.mem_of_getElem? (i := 83) rfl)) rfl
theorem YX4_dropGoal : YL mX4_dropGoal 1 := ⟨rfl, w4_83, w1_2, ⟨by decide, by decide, by decide +kernel⟩, by decide⟩
abbrev mX4_hold : MI := (yX4_hold, cX4_hold, 3, (some .int), [])
theorem w4_95 : Cond.code yX4_hold cX4_hold 3 (some .int) ∈ AL := AL_in (T4 (List.mem_of_getElem? (i := 95) rfl)) rfl
theorem YX4_hold : YL mX4_hold 2 := ⟨rfl, w4_95, w1_2, ⟨by decide, by decide, by decide +kernel⟩, by decide⟩
abbrev mX4_release : MI := (yX4_release, cX4_release, 3, (some .int), [])
theorem w4_110 : Cond.code yX4_release cX4_release 3 (some .int) ∈ AL := AL_in (T4 (List.mem_of_getElem? (i := 110) rfl)) rfl
theorem YX4_release : YL mX4_release 1 := ⟨rfl, w4_110, w1_2, ⟨by decide, by decide, by decide +kernel⟩, by decide⟩
abbrev mX4_rerail : MI := (yX4_rerail, cX4_rerail, 2, (some .int), [])
theorem w4_121 : Cond.code yX4_rerail cX4_rerail 2 (some .int) ∈ AL := AL_in (T4 (List.mem_of_getElem? (i := 121) rfl)) rfl
theorem YX4_rerail : YL mX4_rerail 1 := ⟨rfl, w4_121, w1_2, ⟨by decide, by decide, by decide +kernel⟩, by decide⟩
abbrev mX4_letsIn : MI := (yX4_letsIn, cX4_letsIn, 4, (some .boolean), [])
theorem w4_202 : Cond.code yX4_letsIn cX4_letsIn 4 (some .boolean) ∈ AL := AL_in (T4 (List.mem_of_getElem? (i := 202) rfl)) rfl
theorem YX4_letsIn : YL mX4_letsIn 2 := ⟨rfl, w4_202, w1_2, ⟨by decide, by decide, by decide +kernel⟩, by decide⟩
abbrev mX4_moveTrain : MI := (yX4_moveTrain, cX4_moveTrain, 3, none, [])
theorem w4_206 : Cond.code yX4_moveTrain cX4_moveTrain 3 none ∈ AL := AL_in (T4 (List.mem_of_getElem? (i := 206) rfl)) rfl
theorem YX4_moveTrain : YL mX4_moveTrain 2 := ⟨rfl, w4_206, w1_2, ⟨by decide, by decide, by decide +kernel⟩, by decide⟩
abbrev mX4_countLinks : MI := (yX4_countLinks, cX4_countLinks, 3, (some .int), [])
theorem w3_132 : Cond.code yX4_countLinks cX4_countLinks 3 (some .int) ∈ AL := AL_in (T3 (List.mem_of_getElem? (i := 132) rfl)) rfl
theorem YX4_countLinks : YL mX4_countLinks 0 := ⟨rfl, w3_132, w1_2, ⟨by decide, by decide, by decide +kernel⟩, by decide⟩
abbrev mX4_countHolds : MI := (yX4_countHolds, cX4_countHolds, 3, (some .int), [])
theorem w4_99 : Cond.code yX4_countHolds cX4_countHolds 3 (some .int) ∈ AL := AL_in (T4 (List.mem_of_getElem? (i := 99) rfl)) rfl
theorem YX4_countHolds : YL mX4_countHolds 0 := ⟨rfl, w4_99, w1_2, ⟨by decide, by decide, by decide +kernel⟩, by decide⟩
abbrev mX5_init : MI := (yX5_init, cX5_init, 1, none, [])
theorem w1_215 : Cond.code yX5_init cX5_init 1 none ∈ AL := AL_in (T1 (List.mem_of_getElem? (i := 215) rfl)) rfl
theorem w1_9 : Cond.initialized RX5 ∈ AL := AL_in (T1 (List.mem_of_getElem? (i := 9) rfl)) rfl
theorem YX5_init : YL mX5_init 0 := ⟨rfl, w1_215, w1_9, ⟨by decide, by decide, by decide +kernel⟩, by decide⟩
abbrev mX5_clear : MI := (yX5_clear, cX5_clear, 1, none, [])
theorem w2_115 : Cond.code yX5_clear cX5_clear 1 none ∈ AL := AL_in (T2 (List.mem_of_getElem? (i := 115) rfl)) rfl
theorem YX5_clear : YL mX5_clear 0 := ⟨rfl, w2_115, w1_9, ⟨by decide, by decide, by decide +kernel⟩, by decide⟩
abbrev mX5_put : MI := (yX5_put, cX5_put, 2, none, [])
theorem w2_128 : Cond.code yX5_put cX5_put 2 none ∈ AL := AL_in (T2 (List.mem_of_getElem? (i := 128) rfl)) rfl
theorem YX5_put : YL mX5_put 1 := ⟨rfl, w2_128, w1_9, ⟨by decide, by decide, by decide +kernel⟩, by decide⟩
abbrev mX5_putMarked : MI := (yX5_putMarked, cX5_putMarked, 3, none, [])
theorem w5_26 : Cond.code yX5_putMarked cX5_putMarked 3 none ∈ AL := AL_in (T5 (List.mem_of_getElem? (i := 26) rfl)) rfl
theorem YX5_putMarked : YL mX5_putMarked 2 := ⟨rfl, w5_26, w1_9, ⟨by decide, by decide, by decide +kernel⟩, by decide⟩
abbrev mX6_init : MI := (yX6_init, cX6_init, 1, none, [])
theorem w1_143 : Cond.code yX6_init cX6_init 1 none ∈ AL := AL_in (T1 (List.mem_of_getElem? (i := 143) rfl)) rfl
theorem w1_4 : Cond.initialized RX6 ∈ AL := AL_in (T1 (List.mem_of_getElem? (i := 4) rfl)) rfl
theorem YX6_init : YL mX6_init 0 := ⟨rfl, w1_143, w1_4, ⟨by decide, by decide, by decide +kernel⟩, by decide⟩
abbrev mX6_measureByNearest : MI := (yX6_measureByNearest, cX6_measureByNearest, 8, none, [])
theorem w2_79 : Cond.code yX6_measureByNearest cX6_measureByNearest 8 none ∈ AL := AL_in (T2 (List.mem_of_getElem? (i := 79) rfl)) rfl
theorem YX6_measureByNearest : YL mX6_measureByNearest 2 := ⟨rfl, w2_79, w1_4, ⟨by decide, by decide, by decide +kernel⟩, by decide⟩
abbrev mX6_nearestOpen : MI := (yX6_nearestOpen, cX6_nearestOpen, 6, (some .int), [])
theorem w2_83 : Cond.code yX6_nearestOpen cX6_nearestOpen 6 (some .int) ∈ AL := AL_in (T2 (List.mem_of_getElem? (i := 83) rfl)) rfl
theorem YX6_nearestOpen : YL mX6_nearestOpen 2 := ⟨rfl, w2_83, w1_4, ⟨by decide, by decide, by decide +kernel⟩, by decide⟩
abbrev mX6_measureByRounds : MI := (yX6_measureByRounds, cX6_measureByRounds, 6, none, [])
theorem w2_140 : Cond.code yX6_measureByRounds cX6_measureByRounds 6 none ∈ AL := AL_in (T2 (List.mem_of_getElem? (i := 140) rfl)) rfl
theorem YX6_measureByRounds : YL mX6_measureByRounds 2 := ⟨rfl, w2_140, w1_4, ⟨by decide, by decide, by decide +kernel⟩, by decide⟩
abbrev mX6_shortenFrom : MI := (yX6_shortenFrom, cX6_shortenFrom, 6, (some .boolean), [])
theorem w2_144 : Cond.code yX6_shortenFrom cX6_shortenFrom 6 (some .boolean) ∈ AL := AL_in (T2 (List.mem_of_getElem? (i := 144) rfl)) rfl
theorem YX6_shortenFrom : YL mX6_shortenFrom 2 := ⟨rfl, w2_144, w1_4, ⟨by decide, by decide, by decide +kernel⟩, by decide⟩
abbrev mX6_distancesAgree : MI := (yX6_distancesAgree, cX6_distancesAgree, 4, (some .boolean), [])
theorem w2_136 : Cond.code yX6_distancesAgree cX6_distancesAgree 4 (some .boolean) ∈ AL := AL_in (T2 (List.mem_of_getElem? (i := 136) rfl)) rfl
theorem YX6_distancesAgree : YL mX6_distancesAgree 1 := ⟨rfl, w2_136, w1_4, ⟨by decide, by decide, by decide +kernel⟩, by decide⟩
abbrev mX6_nextFor : MI := (yX6_nextFor, cX6_nextFor, 8, (some .int), [])
theorem w2_75 : Cond.code yX6_nextFor cX6_nextFor 8 (some .int) ∈ AL := AL_in (T2 (List.mem_of_getElem? (i := 75) rfl)) rfl
theorem YX6_nextFor : YL mX6_nextFor 2 := ⟨rfl, w2_75, w1_4, ⟨by decide, by decide, by decide +kernel⟩, by decide⟩
abbrev mX6_cushionNear : MI := (yX6_cushionNear, cX6_cushionNear, 6, (some .int), [])
theorem w4_47 : Cond.code yX6_cushionNear cX6_cushionNear 6 (some .int) ∈ AL := AL_in (T4 (List.mem_of_getElem? (i := 47) rfl)) rfl
theorem YX6_cushionNear : YL mX6_cushionNear 2 := ⟨rfl, w4_47, w1_4, ⟨by decide, by decide, by decide +kernel⟩, by decide⟩
abbrev mX6_partsByWalks : MI := (yX6_partsByWalks, cX6_partsByWalks, 5, (some .int), [])
theorem w2_31 : Cond.code yX6_partsByWalks cX6_partsByWalks 5 (some .int) ∈ AL := AL_in (T2 (List.mem_of_getElem? (i := 31) rfl)) rfl
theorem YX6_partsByWalks : YL mX6_partsByWalks 1 := ⟨rfl, w2_31, w1_4, ⟨by decide, by decide, by decide +kernel⟩, by decide⟩
abbrev mX6_walk : MI := (yX6_walk, cX6_walk, 6, (some .int), [])
theorem w2_37 : Cond.code yX6_walk cX6_walk 6 (some .int) ∈ AL := AL_in (T2 (List.mem_of_getElem? (i := 37) rfl)) rfl
theorem YX6_walk : YL mX6_walk 4 := ⟨rfl, w2_37, w1_4, ⟨by decide, by decide, by decide +kernel⟩, by decide⟩
abbrev mX6_partsByUnions : MI := (yX6_partsByUnions, cX6_partsByUnions, 5, (some .int), [])
theorem w2_50 : Cond.code yX6_partsByUnions cX6_partsByUnions 5 (some .int) ∈ AL := AL_in (T2 (List.mem_of_getElem? (i := 50) rfl)) rfl
theorem YX6_partsByUnions : YL mX6_partsByUnions 1 := ⟨rfl, w2_50, w1_4, ⟨by decide, by decide, by decide +kernel⟩, by decide⟩
abbrev mX6_unite : MI := (yX6_unite, cX6_unite, 5, none, [])
theorem w2_54 : Cond.code yX6_unite cX6_unite 5 none ∈ AL := AL_in (T2 (List.mem_of_getElem? (i := 54) rfl)) rfl
theorem YX6_unite : YL mX6_unite 3 := ⟨rfl, w2_54, w1_4, ⟨by decide, by decide, by decide +kernel⟩, by decide⟩
abbrev mX7_init : MI := (yX7_init, cX7_init, 1, none, [])
theorem w1_162 : Cond.code yX7_init cX7_init 1 none ∈ AL := AL_in (T1 (List.mem_of_getElem? (i := 162) rfl)) rfl
theorem w1_5 : Cond.initialized RX7 ∈ AL := AL_in (T1 (List.mem_of_getElem? (i := 5) rfl)) rfl
theorem YX7_init : YL mX7_init 0 := ⟨rfl, w1_162, w1_5, ⟨by decide, by decide, by decide +kernel⟩, by decide⟩
abbrev mX7_aim : MI := (yX7_aim, cX7_aim, 5, (some .int), [])
theorem w4_69 : Cond.code yX7_aim cX7_aim 5 (some .int) ∈ AL := AL_in (T4 (List.mem_of_getElem? (i := 69) rfl)) rfl
theorem YX7_aim : YL mX7_aim 3 := ⟨rfl, w4_69, w1_5, ⟨by decide, by decide, by decide +kernel⟩, by decide⟩
abbrev mX7_letPass : MI := (yX7_letPass, cX7_letPass, 6, (some .int), [])
theorem w4_193 : Cond.code yX7_letPass cX7_letPass 6 (some .int) ∈ AL := AL_in (T4 (List.mem_of_getElem? (i := 193) rfl)) rfl
theorem YX7_letPass : YL mX7_letPass 2 := ⟨rfl, w4_193, w1_5, ⟨by decide, by decide, by decide +kernel⟩, by decide⟩
abbrev mX7_consider : MI := (yX7_consider, cX7_consider, 4, none, [])
theorem w4_198 : Cond.code yX7_consider cX7_consider 4 none ∈ AL := AL_in (T4 (List.mem_of_getElem? (i := 198) rfl)) rfl
theorem YX7_consider : YL mX7_consider 2 := ⟨rfl, w4_198, w1_5, ⟨by decide, by decide, by decide +kernel⟩, by decide⟩
abbrev mX7_ticksToGoal : MI := (yX7_ticksToGoal, cX7_ticksToGoal, 4, (some .int), [])
theorem w4_218 : Cond.code yX7_ticksToGoal cX7_ticksToGoal 4 (some .int) ∈ AL := AL_in (T4 (List.mem_of_getElem? (i := 218) rfl)) rfl
theorem YX7_ticksToGoal : YL mX7_ticksToGoal 2 := ⟨rfl, w4_218, w1_5, ⟨by decide, by decide, by decide +kernel⟩, by decide⟩
abbrev mX7_blockerOf : MI := (yX7_blockerOf, cX7_blockerOf, 4, (some .int), [])
theorem w2_70 : Cond.code yX7_blockerOf cX7_blockerOf 4 (some .int) ∈ AL := AL_in (T2 (List.mem_of_getElem? (i := 70) rfl)) rfl
theorem YX7_blockerOf : YL mX7_blockerOf 2 := ⟨rfl, w2_70, w1_5, ⟨by decide, by decide, by decide +kernel⟩, by decide⟩
abbrev mX7_stuckByFollowing : MI := (yX7_stuckByFollowing, cX7_stuckByFollowing, 4, (some .int), [])
theorem w2_66 : Cond.code yX7_stuckByFollowing cX7_stuckByFollowing 4 (some .int) ∈ AL := AL_in (T2 (List.mem_of_getElem? (i := 66) rfl)) rfl
theorem YX7_stuckByFollowing : YL mX7_stuckByFollowing 1 := ⟨rfl, w2_66, w1_5, ⟨by decide, by decide, by decide +kernel⟩, by decide⟩
abbrev mX7_leadsBack : MI := (yX7_leadsBack, cX7_leadsBack, 5, (some .boolean), [])
theorem w2_91 : Cond.code yX7_leadsBack cX7_leadsBack 5 (some .boolean) ∈ AL := AL_in (T2 (List.mem_of_getElem? (i := 91) rfl)) rfl
theorem YX7_leadsBack : YL mX7_leadsBack 2 := ⟨rfl, w2_91, w1_5, ⟨by decide, by decide, by decide +kernel⟩, by decide⟩
abbrev mX7_stuckByTable : MI := (yX7_stuckByTable, cX7_stuckByTable, 4, (some .int), [])
theorem w2_99 : Cond.code yX7_stuckByTable cX7_stuckByTable 4 (some .int) ∈ AL := AL_in (T2 (List.mem_of_getElem? (i := 99) rfl)) rfl
theorem YX7_stuckByTable : YL mX7_stuckByTable 1 := ⟨rfl, w2_99, w1_5, ⟨by decide, by decide, by decide +kernel⟩, by decide⟩
abbrev mX8_init : MI := (yX8_init, cX8_init, 1, none, [])
theorem w1_33 : Cond.code yX8_init cX8_init 1 none ∈ AL := AL_in (T1 (List.mem_of_getElem? (i := 33) rfl)) rfl
theorem w1_1 : Cond.initialized RX8 ∈ AL := AL_in (T1 (List.mem_of_getElem? (i := 1) rfl)) rfl
theorem YX8_init : YL mX8_init 0 := ⟨rfl, w1_33, w1_1, ⟨by decide, by decide, by decide +kernel⟩, by decide⟩
abbrev mX8_addBlock : MI := (yX8_addBlock, cX8_addBlock, 2, (some .int), [])
theorem w2_168 : Cond.code yX8_addBlock cX8_addBlock 2 (some .int) ∈ AL := AL_in (T2 (List.mem_of_getElem? (i := 168) rfl)) rfl
theorem YX8_addBlock : YL mX8_addBlock 1 := ⟨rfl, w2_168, w1_1, ⟨by decide, by decide, by decide +kernel⟩, by decide⟩
abbrev mX8_addCushion : MI := (yX8_addCushion, cX8_addCushion, 2, (some .int), [])
theorem w3_91 : Cond.code yX8_addCushion cX8_addCushion 2 (some .int) ∈ AL := AL_in (T3 (List.mem_of_getElem? (i := 91) rfl)) rfl
theorem YX8_addCushion : YL mX8_addCushion 1 := ⟨rfl, w3_91, w1_1, ⟨by decide, by decide, by decide +kernel⟩, by decide⟩
abbrev mX8_link : MI := (yX8_link, cX8_link, 3, (some .int), [])
theorem w3_119 : Cond.code yX8_link cX8_link 3 (some .int) ∈ AL := AL_in (T3 (List.mem_of_getElem? (i := 119) rfl)) rfl
theorem YX8_link : YL mX8_link 2 := ⟨rfl, w3_119, w1_1, ⟨by decide, by decide, by decide +kernel⟩, by decide⟩
abbrev mX8_unlink : MI := (yX8_unlink, cX8_unlink, 3, (some .int), [])
theorem w3_146 : Cond.code yX8_unlink cX8_unlink 3 (some .int) ∈ AL := AL_in (T3 (List.mem_of_getElem? (i := 146) rfl)) rfl
theorem YX8_unlink : YL mX8_unlink 2 := ⟨rfl, w3_146, w1_1, ⟨by decide, by decide, by decide +kernel⟩, by decide⟩
abbrev mX8_putCat : MI := (yX8_putCat, cX8_putCat, 2, (some .int), [])
theorem w3_158 : Cond.code yX8_putCat cX8_putCat 2 (some .int) ∈ AL := AL_in (T3 (List.mem_of_getElem? (i := 158) rfl)) rfl
theorem YX8_putCat : YL mX8_putCat 1 := ⟨rfl, w3_158, w1_1, ⟨by decide, by decide, by decide +kernel⟩, by decide⟩
abbrev mX8_removeCat : MI := (yX8_removeCat, cX8_removeCat, 2, (some .int), [])
theorem w3_169 : Cond.code yX8_removeCat cX8_removeCat 2 (some .int) ∈ AL := AL_in (T3 (List.mem_of_getElem? (i := 169) rfl)) rfl
theorem YX8_removeCat : YL mX8_removeCat 1 := ⟨rfl, w3_169, w1_1, ⟨by decide, by decide, by decide +kernel⟩, by decide⟩
abbrev mX8_blockCount : MI := (yX8_blockCount, cX8_blockCount, 1, (some .int), [])
theorem w2_23 : Cond.code yX8_blockCount cX8_blockCount 1 (some .int) ∈ AL := AL_in (T2 (List.mem_of_getElem? (i := 23) rfl)) rfl
theorem YX8_blockCount : YL mX8_blockCount 0 := ⟨rfl, w2_23, w1_1, ⟨by decide, by decide, by decide +kernel⟩, by decide⟩
abbrev mX8_length : MI := (yX8_length, cX8_length, 2, (some .int), [])
theorem w3_180 : Cond.code yX8_length cX8_length 2 (some .int) ∈ AL := AL_in (T3 (List.mem_of_getElem? (i := 180) rfl)) rfl
theorem YX8_length : YL mX8_length 1 := ⟨rfl, w3_180, w1_1, ⟨by decide, by decide, by decide +kernel⟩, by decide⟩
abbrev mX8_isCushion : MI := (yX8_isCushion, cX8_isCushion, 2, (some .boolean), [])
theorem w3_193 : Cond.code yX8_isCushion cX8_isCushion 2 (some .boolean) ∈ AL := AL_in (T3 (List.mem_of_getElem? (i := 193) rfl)) rfl
theorem YX8_isCushion : YL mX8_isCushion 1 := ⟨rfl, w3_193, w1_1, ⟨by decide, by decide, by decide +kernel⟩, by decide⟩
abbrev mX8_hasCat : MI := (yX8_hasCat, cX8_hasCat, 2, (some .boolean), [])
theorem w3_201 : Cond.code yX8_hasCat cX8_hasCat 2 (some .boolean) ∈ AL := AL_in (T3 (List.mem_of_getElem? (i := 201) rfl)) rfl
theorem YX8_hasCat : YL mX8_hasCat 1 := ⟨rfl, w3_201, w1_1, ⟨by decide, by decide, by decide +kernel⟩, by decide⟩
abbrev mX8_areLinked : MI := (yX8_areLinked, cX8_areLinked, 3, (some .boolean), [])
theorem w3_208 : Cond.code yX8_areLinked cX8_areLinked 3 (some .boolean) ∈ AL := AL_in (T3 (List.mem_of_getElem? (i := 208) rfl)) rfl
theorem YX8_areLinked : YL mX8_areLinked 2 := ⟨rfl, w3_208, w1_1, ⟨by decide, by decide, by decide +kernel⟩, by decide⟩
abbrev mX8_degree : MI := (yX8_degree, cX8_degree, 2, (some .int), [])
theorem w3_216 : Cond.code yX8_degree cX8_degree 2 (some .int) ∈ AL := AL_in (T3 (List.mem_of_getElem? (i := 216) rfl)) rfl
theorem YX8_degree : YL mX8_degree 1 := ⟨rfl, w3_216, w1_1, ⟨by decide, by decide, by decide +kernel⟩, by decide⟩
abbrev mX8_trainIn : MI := (yX8_trainIn, cX8_trainIn, 2, (some .int), [])
theorem w3_224 : Cond.code yX8_trainIn cX8_trainIn 2 (some .int) ∈ AL := AL_in (T3 (List.mem_of_getElem? (i := 224) rfl)) rfl
theorem YX8_trainIn : YL mX8_trainIn 1 := ⟨rfl, w3_224, w1_1, ⟨by decide, by decide, by decide +kernel⟩, by decide⟩
abbrev mX8_reservedBy : MI := (yX8_reservedBy, cX8_reservedBy, 2, (some .int), [])
theorem w3_235 : Cond.code yX8_reservedBy cX8_reservedBy 2 (some .int) ∈ AL := AL_in (T3 (List.mem_of_getElem? (i := 235) rfl)) rfl
theorem YX8_reservedBy : YL mX8_reservedBy 1 := ⟨rfl, w3_235, w1_1, ⟨by decide, by decide, by decide +kernel⟩, by decide⟩
abbrev mX8_signal : MI := (yX8_signal, cX8_signal, 2, (some .char), [])
theorem w4_3 : Cond.code yX8_signal cX8_signal 2 (some .char) ∈ AL := AL_in (T4 (List.mem_of_getElem? (i := 3) rfl)) rfl
theorem YX8_signal : YL mX8_signal 1 := ⟨rfl, w4_3, w1_1, ⟨by decide, by decide, by decide +kernel⟩, by decide⟩
abbrev mX8_distance : MI := (yX8_distance, cX8_distance, 3, (some .int), [])
theorem w4_10 : Cond.code yX8_distance cX8_distance 3 (some .int) ∈ AL := AL_in (T4 (List.mem_of_getElem? (i := 10) rfl)) rfl
theorem YX8_distance : YL mX8_distance 2 := ⟨rfl, w4_10, w1_1, ⟨by decide, by decide, by decide +kernel⟩, by decide⟩
abbrev mX8_distanceByRounds : MI := (yX8_distanceByRounds, cX8_distanceByRounds, 3, (some .int), [])
theorem w4_18 : Cond.code yX8_distanceByRounds cX8_distanceByRounds 3 (some .int) ∈ AL := AL_in (T4 (List.mem_of_getElem? (i := 18) rfl)) rfl
theorem YX8_distanceByRounds : YL mX8_distanceByRounds 2 := ⟨rfl, w4_18, w1_1, ⟨by decide, by decide, by decide +kernel⟩, by decide⟩
abbrev mX8_nextBlock : MI := (yX8_nextBlock, cX8_nextBlock, 2, (some .int), [])
theorem w4_26 : Cond.code yX8_nextBlock cX8_nextBlock 2 (some .int) ∈ AL := AL_in (T4 (List.mem_of_getElem? (i := 26) rfl)) rfl
theorem YX8_nextBlock : YL mX8_nextBlock 1 := ⟨rfl, w4_26, w1_1, ⟨by decide, by decide, by decide +kernel⟩, by decide⟩
abbrev mX8_partCount : MI := (yX8_partCount, cX8_partCount, 1, (some .int), [])
theorem w2_27 : Cond.code yX8_partCount cX8_partCount 1 (some .int) ∈ AL := AL_in (T2 (List.mem_of_getElem? (i := 27) rfl)) rfl
theorem YX8_partCount : YL mX8_partCount 0 := ⟨rfl, w2_27, w1_1, ⟨by decide, by decide, by decide +kernel⟩, by decide⟩
abbrev mX8_partCountByUnions : MI := (yX8_partCountByUnions, cX8_partCountByUnions, 1, (some .int), [])
theorem w2_46 : Cond.code yX8_partCountByUnions cX8_partCountByUnions 1 (some .int) ∈ AL := AL_in (T2 (List.mem_of_getElem? (i := 46) rfl)) rfl
theorem YX8_partCountByUnions : YL mX8_partCountByUnions 0 := ⟨rfl, w2_46, w1_1, ⟨by decide, by decide, by decide +kernel⟩, by decide⟩
abbrev mX8_nearestCushion : MI := (yX8_nearestCushion, cX8_nearestCushion, 2, (some .int), [])
theorem w4_43 : Cond.code yX8_nearestCushion cX8_nearestCushion 2 (some .int) ∈ AL := AL_in (T4 (List.mem_of_getElem? (i := 43) rfl)) rfl
theorem YX8_nearestCushion : YL mX8_nearestCushion 1 := ⟨rfl, w4_43, w1_1, ⟨by decide, by decide, by decide +kernel⟩, by decide⟩
abbrev mX8_addTrain : MI := (yX8_addTrain, cX8_addTrain, 3, (some .int), [])
theorem w4_54 : Cond.code yX8_addTrain cX8_addTrain 3 (some .int) ∈ AL := AL_in (T4 (List.mem_of_getElem? (i := 54) rfl)) rfl
theorem YX8_addTrain : YL mX8_addTrain 2 := ⟨rfl, w4_54, w1_1, ⟨by decide, by decide, by decide +kernel⟩, by decide⟩
abbrev mX8_setGoal : MI := (yX8_setGoal, cX8_setGoal, 3, (some .int), [])
theorem w4_65 : Cond.code yX8_setGoal cX8_setGoal 3 (some .int) ∈ AL := AL_in (T4 (List.mem_of_getElem? (i := 65) rfl)) rfl
theorem YX8_setGoal : YL mX8_setGoal 2 := ⟨rfl, w4_65, w1_1, ⟨by decide, by decide, by decide +kernel⟩, by decide⟩
abbrev mX8_clearGoal : MI := (yX8_clearGoal, cX8_clearGoal, 2, (some .int), [])
theorem w4_79 : Cond.code yX8_clearGoal cX8_clearGoal 2 (some .int) ∈ AL := AL_in (T4 (List.mem_of_getElem? (i := 79) rfl)) rfl
theorem YX8_clearGoal : YL mX8_clearGoal 1 := ⟨rfl, w4_79, w1_1, ⟨by decide, by decide, by decide +kernel⟩, by decide⟩
abbrev mX8_reserve : MI := (yX8_reserve, cX8_reserve, 3, (some .int), [])
theorem w4_91 : Cond.code yX8_reserve cX8_reserve 3 (some .int) ∈ AL := AL_in (T4 (List.mem_of_getElem? (i := 91) rfl)) rfl
theorem YX8_reserve : YL mX8_reserve 2 := ⟨rfl, w4_91, w1_1, ⟨by decide, by decide, by decide +kernel⟩, by decide⟩
abbrev mX8_cancelReservation : MI := (yX8_cancelReservation, cX8_cancelReservation, 2, (some .int), [])
theorem w4_106 : Cond.code yX8_cancelReservation cX8_cancelReservation 2 (some .int) ∈ AL := AL_in (T4 (List.mem_of_getElem? (i := 106) rfl)) rfl
theorem YX8_cancelReservation : YL mX8_cancelReservation 1 := ⟨rfl, w4_106, w1_1, ⟨by decide, by decide, by decide +kernel⟩, by decide⟩
abbrev mX8_rescue : MI := (yX8_rescue, cX8_rescue, 2, (some .int), [])
theorem w4_117 : Cond.code yX8_rescue cX8_rescue 2 (some .int) ∈ AL := AL_in (T4 (List.mem_of_getElem? (i := 117) rfl)) rfl
theorem YX8_rescue : YL mX8_rescue 1 := ⟨rfl, w4_117, w1_1, ⟨by decide, by decide, by decide +kernel⟩, by decide⟩
abbrev mX8_trainCount : MI := (yX8_trainCount, cX8_trainCount, 1, (some .int), [])
theorem w2_58 : Cond.code yX8_trainCount cX8_trainCount 1 (some .int) ∈ AL := AL_in (T2 (List.mem_of_getElem? (i := 58) rfl)) rfl
theorem YX8_trainCount : YL mX8_trainCount 0 := ⟨rfl, w2_58, w1_1, ⟨by decide, by decide, by decide +kernel⟩, by decide⟩
abbrev mX8_blockOf : MI := (yX8_blockOf, cX8_blockOf, 2, (some .int), [])
theorem w4_128 : Cond.code yX8_blockOf cX8_blockOf 2 (some .int) ∈ AL := AL_in (T4 (List.mem_of_getElem? (i := 128) rfl)) rfl
theorem YX8_blockOf : YL mX8_blockOf 1 := ⟨rfl, w4_128, w1_1, ⟨by decide, by decide, by decide +kernel⟩, by decide⟩
abbrev mX8_priority : MI := (yX8_priority, cX8_priority, 2, (some .int), [])
theorem w4_135 : Cond.code yX8_priority cX8_priority 2 (some .int) ∈ AL := AL_in (T4 (List.mem_of_getElem? (i := 135) rfl)) rfl
theorem YX8_priority : YL mX8_priority 1 := ⟨rfl, w4_135, w1_1, ⟨by decide, by decide, by decide +kernel⟩, by decide⟩
abbrev mX8_remainingTicks : MI := (yX8_remainingTicks, cX8_remainingTicks, 2, (some .int), [])
theorem w4_142 : Cond.code yX8_remainingTicks cX8_remainingTicks 2 (some .int) ∈ AL := AL_in (T4 (List.mem_of_getElem? (i := 142) rfl)) rfl
theorem YX8_remainingTicks : YL mX8_remainingTicks 1 := ⟨rfl, w4_142, w1_1, ⟨by decide, by decide, by decide +kernel⟩, by decide⟩
abbrev mX8_goal : MI := (yX8_goal, cX8_goal, 2, (some .int), [])
theorem w4_149 : Cond.code yX8_goal cX8_goal 2 (some .int) ∈ AL := AL_in (T4 (List.mem_of_getElem? (i := 149) rfl)) rfl
theorem YX8_goal : YL mX8_goal 1 := ⟨rfl, w4_149, w1_1, ⟨by decide, by decide, by decide +kernel⟩, by decide⟩
abbrev mX8_isDerailed : MI := (yX8_isDerailed, cX8_isDerailed, 2, (some .boolean), [])
theorem w4_156 : Cond.code yX8_isDerailed cX8_isDerailed 2 (some .boolean) ∈ AL := AL_in (T4 (List.mem_of_getElem? (i := 156) rfl)) rfl
theorem YX8_isDerailed : YL mX8_isDerailed 1 := ⟨rfl, w4_156, w1_1, ⟨by decide, by decide, by decide +kernel⟩, by decide⟩
abbrev mX8_waits : MI := (yX8_waits, cX8_waits, 2, (some .int), [])
theorem w4_163 : Cond.code yX8_waits cX8_waits 2 (some .int) ∈ AL := AL_in (T4 (List.mem_of_getElem? (i := 163) rfl)) rfl
theorem YX8_waits : YL mX8_waits 1 := ⟨rfl, w4_163, w1_1, ⟨by decide, by decide, by decide +kernel⟩, by decide⟩
abbrev mX8_trainByPriority : MI := (yX8_trainByPriority, cX8_trainByPriority, 2, (some .int), [])
theorem w4_170 : Cond.code yX8_trainByPriority cX8_trainByPriority 2 (some .int) ∈ AL := AL_in (T4 (List.mem_of_getElem? (i := 170) rfl)) rfl
theorem YX8_trainByPriority : YL mX8_trainByPriority 1 := ⟨rfl, w4_170, w1_1, ⟨by decide, by decide, by decide +kernel⟩, by decide⟩
abbrev mX8_blockedBy : MI := (yX8_blockedBy, cX8_blockedBy, 2, (some .int), [])
theorem w4_181 : Cond.code yX8_blockedBy cX8_blockedBy 2 (some .int) ∈ AL := AL_in (T4 (List.mem_of_getElem? (i := 181) rfl)) rfl
theorem YX8_blockedBy : YL mX8_blockedBy 1 := ⟨rfl, w4_181, w1_1, ⟨by decide, by decide, by decide +kernel⟩, by decide⟩
abbrev mX8_deadlocked : MI := (yX8_deadlocked, cX8_deadlocked, 1, (some .int), [])
theorem w2_62 : Cond.code yX8_deadlocked cX8_deadlocked 1 (some .int) ∈ AL := AL_in (T2 (List.mem_of_getElem? (i := 62) rfl)) rfl
theorem YX8_deadlocked : YL mX8_deadlocked 0 := ⟨rfl, w2_62, w1_1, ⟨by decide, by decide, by decide +kernel⟩, by decide⟩
abbrev mX8_deadlockedByTable : MI := (yX8_deadlockedByTable, cX8_deadlockedByTable, 1, (some .int), [])
theorem w2_95 : Cond.code yX8_deadlockedByTable cX8_deadlockedByTable 1 (some .int) ∈ AL := AL_in (T2 (List.mem_of_getElem? (i := 95) rfl)) rfl
theorem YX8_deadlockedByTable : YL mX8_deadlockedByTable 0 := ⟨rfl, w2_95, w1_1, ⟨by decide, by decide, by decide +kernel⟩, by decide⟩
abbrev mX8_passTicks : MI := (yX8_passTicks, cX8_passTicks, 2, (some .int), [])
theorem w4_189 : Cond.code yX8_passTicks cX8_passTicks 2 (some .int) ∈ AL := AL_in (T4 (List.mem_of_getElem? (i := 189) rfl)) rfl
theorem YX8_passTicks : YL mX8_passTicks 1 := ⟨rfl, w4_189, w1_1, ⟨by decide, by decide, by decide +kernel⟩, by decide⟩
abbrev mX8_ticks : MI := (yX8_ticks, cX8_ticks, 1, (some .int), [])
theorem w2_103 : Cond.code yX8_ticks cX8_ticks 1 (some .int) ∈ AL := AL_in (T2 (List.mem_of_getElem? (i := 103) rfl)) rfl
theorem YX8_ticks : YL mX8_ticks 0 := ⟨rfl, w2_103, w1_1, ⟨by decide, by decide, by decide +kernel⟩, by decide⟩
abbrev mX8_arrivals : MI := (yX8_arrivals, cX8_arrivals, 1, (some .int), [])
theorem w2_107 : Cond.code yX8_arrivals cX8_arrivals 1 (some .int) ∈ AL := AL_in (T2 (List.mem_of_getElem? (i := 107) rfl)) rfl
theorem YX8_arrivals : YL mX8_arrivals 0 := ⟨rfl, w2_107, w1_1, ⟨by decide, by decide, by decide +kernel⟩, by decide⟩
abbrev mX8_ticksUntilArrival : MI := (yX8_ticksUntilArrival, cX8_ticksUntilArrival, 2, (some .int), [])
theorem w4_213 : Cond.code yX8_ticksUntilArrival cX8_ticksUntilArrival 2 (some .int) ∈ AL := AL_in (T4 (List.mem_of_getElem? (i := 213) rfl)) rfl
theorem YX8_ticksUntilArrival : YL mX8_ticksUntilArrival 1 := ⟨rfl, w4_213, w1_1, ⟨by decide, by decide, by decide +kernel⟩, by decide⟩
abbrev mX8_meanWaits : MI := (yX8_meanWaits, cX8_meanWaits, 1, (some .double), [])
theorem w5_0 : Cond.code yX8_meanWaits cX8_meanWaits 1 (some .double) ∈ AL := AL_in (T5 (List.mem_of_getElem? (i := 0) rfl)) rfl
theorem YX8_meanWaits : YL mX8_meanWaits 0 := ⟨rfl, w5_0, w1_1, ⟨by decide, by decide, by decide +kernel⟩, by decide⟩
abbrev mX8_occupiedFraction : MI := (yX8_occupiedFraction, cX8_occupiedFraction, 1, (some .float), [])
theorem w5_14 : Cond.code yX8_occupiedFraction cX8_occupiedFraction 1 (some .float) ∈ AL := AL_in (T5 (List.mem_of_getElem? (i := 14) rfl)) rfl
theorem YX8_occupiedFraction : YL mX8_occupiedFraction 0 := ⟨rfl, w5_14, w1_1, ⟨by decide, by decide, by decide +kernel⟩, by decide⟩
abbrev mX8_writeTrain : MI := (yX8_writeTrain, cX8_writeTrain, 2, (some .int), [])
theorem w5_22 : Cond.code yX8_writeTrain cX8_writeTrain 2 (some .int) ∈ AL := AL_in (T5 (List.mem_of_getElem? (i := 22) rfl)) rfl
theorem YX8_writeTrain : YL mX8_writeTrain 1 := ⟨rfl, w5_22, w1_1, ⟨by decide, by decide, by decide +kernel⟩, by decide⟩
abbrev mX8_writeSignals : MI := (yX8_writeSignals, cX8_writeSignals, 2, (some .int), [])
theorem w2_111 : Cond.code yX8_writeSignals cX8_writeSignals 2 (some .int) ∈ AL := AL_in (T2 (List.mem_of_getElem? (i := 111) rfl)) rfl
theorem YX8_writeSignals : YL mX8_writeSignals 0 := ⟨rfl, w2_111, w1_1, ⟨by decide, by decide, by decide +kernel⟩, by decide⟩
abbrev mX8_outputCharacter : MI := (yX8_outputCharacter, cX8_outputCharacter, 2, (some .char), [])
theorem w5_34 : Cond.code yX8_outputCharacter cX8_outputCharacter 2 (some .char) ∈ AL := AL_in (T5 (List.mem_of_getElem? (i := 34) rfl)) rfl
theorem YX8_outputCharacter : YL mX8_outputCharacter 1 := ⟨rfl, w5_34, w1_1, ⟨by decide, by decide, by decide +kernel⟩, by decide⟩
abbrev mX8_isConsistent : MI := (yX8_isConsistent, cX8_isConsistent, 1, (some .boolean), [])
theorem w2_132 : Cond.code yX8_isConsistent cX8_isConsistent 1 (some .boolean) ∈ AL := AL_in (T2 (List.mem_of_getElem? (i := 132) rfl)) rfl
theorem YX8_isConsistent : YL mX8_isConsistent 0 := ⟨rfl, w2_132, w1_1, ⟨by decide, by decide, by decide +kernel⟩, by decide⟩
abbrev mX8_feed : MI := (yX8_feed, cX8_feed, 2, (some .int), [])
theorem w5_42 : Cond.code yX8_feed cX8_feed 2 (some .int) ∈ AL := AL_in (T5 (List.mem_of_getElem? (i := 42) rfl)) rfl
theorem YX8_feed : YL mX8_feed 1 := ⟨rfl, w5_42, w1_1, ⟨by decide, by decide, by decide +kernel⟩, by decide⟩
abbrev mX8_execute : MI := (yX8_execute, cX8_execute, 4, (some .int), [])
theorem w5_54 : Cond.code yX8_execute cX8_execute 4 (some .int) ∈ AL := AL_in (T5 (List.mem_of_getElem? (i := 54) rfl)) rfl
theorem YX8_execute : YL mX8_execute 0 := ⟨rfl, w5_54, w1_1, ⟨by decide, by decide, by decide +kernel⟩, by decide⟩
abbrev mX8_errorPosition : MI := (yX8_errorPosition, cX8_errorPosition, 1, (some .int), [])
theorem w5_166 : Cond.code yX8_errorPosition cX8_errorPosition 1 (some .int) ∈ AL := AL_in (T5 (List.mem_of_getElem? (i := 166) rfl)) rfl
theorem YX8_errorPosition : YL mX8_errorPosition 0 := ⟨rfl, w5_166, w1_1, ⟨by decide, by decide, by decide +kernel⟩, by decide⟩
abbrev mX8_failedCommand : MI := (yX8_failedCommand, cX8_failedCommand, 1, (some .int), [])
theorem w5_173 : Cond.code yX8_failedCommand cX8_failedCommand 1 (some .int) ∈ AL := AL_in (T5 (List.mem_of_getElem? (i := 173) rfl)) rfl
theorem YX8_failedCommand : YL mX8_failedCommand 0 := ⟨rfl, w5_173, w1_1, ⟨by decide, by decide, by decide +kernel⟩, by decide⟩
abbrev mX8_undo : MI := (yX8_undo, cX8_undo, 1, (some .int), [])
theorem w5_180 : Cond.code yX8_undo cX8_undo 1 (some .int) ∈ AL := AL_in (T5 (List.mem_of_getElem? (i := 180) rfl)) rfl
theorem YX8_undo : YL mX8_undo 0 := ⟨rfl, w5_180, w1_1, ⟨by decide, by decide, by decide +kernel⟩, by decide⟩
abbrev mX8_undoCount : MI := (yX8_undoCount, cX8_undoCount, 1, (some .int), [])
theorem w2_148 : Cond.code yX8_undoCount cX8_undoCount 1 (some .int) ∈ AL := AL_in (T2 (List.mem_of_getElem? (i := 148) rfl)) rfl
theorem YX8_undoCount : YL mX8_undoCount 0 := ⟨rfl, w2_148, w1_1, ⟨by decide, by decide, by decide +kernel⟩, by decide⟩
abbrev mX8_save : MI := (yX8_save, cX8_save, 1, (some .int), [])
theorem w2_152 : Cond.code yX8_save cX8_save 1 (some .int) ∈ AL := AL_in (T2 (List.mem_of_getElem? (i := 152) rfl)) rfl
theorem YX8_save : YL mX8_save 0 := ⟨rfl, w2_152, w1_1, ⟨by decide, by decide, by decide +kernel⟩, by decide⟩
abbrev mX8_restore : MI := (yX8_restore, cX8_restore, 1, (some .int), [])
theorem w5_192 : Cond.code yX8_restore cX8_restore 1 (some .int) ∈ AL := AL_in (T5 (List.mem_of_getElem? (i := 192) rfl)) rfl
theorem YX8_restore : YL mX8_restore 0 := ⟨rfl, w5_192, w1_1, ⟨by decide, by decide, by decide +kernel⟩, by decide⟩
abbrev mX8_needBlock : MI := (yX8_needBlock, cX8_needBlock, 2, none, [])
theorem w3_184 : Cond.code yX8_needBlock cX8_needBlock 2 none ∈ AL := AL_in (T3 (List.mem_of_getElem? (i := 184) rfl)) rfl
theorem YX8_needBlock : YL mX8_needBlock 1 := ⟨rfl, w3_184, w1_1, ⟨by decide, by decide, by decide +kernel⟩, by decide⟩
abbrev mX8_needTrain : MI := (yX8_needTrain, cX8_needTrain, 2, none, [])
theorem w4_30 : Cond.code yX8_needTrain cX8_needTrain 2 none ∈ AL := AL_in (T4 (List.mem_of_getElem? (i := 30) rfl)) rfl
theorem YX8_needTrain : YL mX8_needTrain 1 := ⟨rfl, w4_30, w1_1, ⟨by decide, by decide, by decide +kernel⟩, by decide⟩
abbrev mX8_has : MI := (yX8_has, cX8_has, 2, (some .boolean), [])
theorem w2_34 : Cond.code yX8_has cX8_has 2 (some .boolean) ∈ AL := AL_in (T2 (List.mem_of_getElem? (i := 34) rfl)) rfl
theorem YX8_has : YL mX8_has 2 := ⟨rfl, w2_34, w1_1, ⟨by decide, by decide, by decide +kernel⟩, by decide⟩
abbrev mX8_found : MI := (yX8_found, cX8_found, 1, (some .int), [])
theorem w3_228 : Cond.code yX8_found cX8_found 1 (some .int) ∈ AL := AL_in (T3 (List.mem_of_getElem? (i := 228) rfl)) rfl
theorem YX8_found : YL mX8_found 1 := ⟨rfl, w3_228, w1_1, ⟨by decide, by decide, by decide +kernel⟩, by decide⟩
abbrev mX8_changed : MI := (yX8_changed, cX8_changed, 2, (some .int), [])
theorem w2_181 : Cond.code yX8_changed cX8_changed 2 (some .int) ∈ AL := AL_in (T2 (List.mem_of_getElem? (i := 181) rfl)) rfl
theorem YX8_changed : YL mX8_changed 1 := ⟨rfl, w2_181, w1_1, ⟨by decide, by decide, by decide +kernel⟩, by decide⟩
abbrev mX8_perform : MI := (yX8_perform, cX8_perform, 4, (some .int), [])
theorem w5_146 : Cond.code yX8_perform cX8_perform 4 (some .int) ∈ AL := AL_in (T5 (List.mem_of_getElem? (i := 146) rfl)) rfl
theorem YX8_perform : YL mX8_perform 3 := ⟨rfl, w5_146, w1_1, ⟨by decide, by decide, by decide +kernel⟩, by decide⟩
abbrev mX9_init : MI := (yX9_init, cX9_init, 1, none, [])
theorem w5_202 : Cond.code yX9_init cX9_init 1 none ∈ AL := AL_in (T5 (List.mem_of_getElem? (i := 202) rfl)) rfl
theorem w1_10 : Cond.initialized RX9 ∈ AL := AL_in (T1 (List.mem_of_getElem? (i := 10) rfl)) rfl
theorem YX9_init : YL mX9_init 0 := ⟨rfl, w5_202, w1_10, ⟨by decide, by decide, by decide +kernel⟩, by decide⟩
abbrev mX9_thrown : MI := (yX9_thrown, cX9_thrown, 1, (some .int), [])
theorem w6_34 : Cond.code yX9_thrown cX9_thrown 1 (some .int) ∈ AL := AL_in (T6 (List.mem_of_getElem? (i := 34) rfl)) rfl
theorem YX9_thrown : YL mX9_thrown 0 := ⟨rfl, w6_34, w1_10, ⟨by decide, by decide, by decide +kernel⟩, by decide⟩
abbrev mX9_fails : MI := (yX9_fails, cX9_fails, 2, (some .int), [])
theorem w6_65 : Cond.code yX9_fails cX9_fails 2 (some .int) ∈ AL := AL_in (T6 (List.mem_of_getElem? (i := 65) rfl)) rfl
theorem YX9_fails : YL mX9_fails 1 := ⟨rfl, w6_65, w1_10, ⟨by decide, by decide, by decide +kernel⟩, by decide⟩
abbrev mX9_in : MI := (yX9_in, cX9_in, 3, (some .boolean), [])
theorem w6_49 : Cond.code yX9_in cX9_in 3 (some .boolean) ∈ AL := AL_in (T6 (List.mem_of_getElem? (i := 49) rfl)) rfl
theorem YX9_in : YL mX9_in 3 := ⟨rfl, w6_49, w1_10, ⟨by decide, by decide, by decide +kernel⟩, by decide⟩
abbrev mX9_remembers : MI := (yX9_remembers, cX9_remembers, 2, none, [])
theorem w6_42 : Cond.code yX9_remembers cX9_remembers 2 none ∈ AL := AL_in (T6 (List.mem_of_getElem? (i := 42) rfl)) rfl
theorem YX9_remembers : YL mX9_remembers 0 := ⟨rfl, w6_42, w1_10, ⟨by decide, by decide, by decide +kernel⟩, by decide⟩
abbrev mX9_changed : MI := (yX9_changed, cX9_changed, 3, (some .int), [])
theorem w6_61 : Cond.code yX9_changed cX9_changed 3 (some .int) ∈ AL := AL_in (T6 (List.mem_of_getElem? (i := 61) rfl)) rfl
theorem YX9_changed : YL mX9_changed 1 := ⟨rfl, w6_61, w1_10, ⟨by decide, by decide, by decide +kernel⟩, by decide⟩
abbrev mX9_done : MI := (yX9_done, cX9_done, 2, (some .int), [])
theorem w6_53 : Cond.code yX9_done cX9_done 2 (some .int) ∈ AL := AL_in (T6 (List.mem_of_getElem? (i := 53) rfl)) rfl
theorem YX9_done : YL mX9_done 1 := ⟨rfl, w6_53, w1_10, ⟨by decide, by decide, by decide +kernel⟩, by decide⟩
abbrev mX9_ends : MI := (yX9_ends, cX9_ends, 2, (some .int), [])
theorem w6_57 : Cond.code yX9_ends cX9_ends 2 (some .int) ∈ AL := AL_in (T6 (List.mem_of_getElem? (i := 57) rfl)) rfl
theorem YX9_ends : YL mX9_ends 1 := ⟨rfl, w6_57, w1_10, ⟨by decide, by decide, by decide +kernel⟩, by decide⟩
abbrev mX9_isBlock : MI := (yX9_isBlock, cX9_isBlock, 2, (some .boolean), [])
theorem w6_81 : Cond.code yX9_isBlock cX9_isBlock 2 (some .boolean) ∈ AL := AL_in (T6 (List.mem_of_getElem? (i := 81) rfl)) rfl
theorem YX9_isBlock : YL mX9_isBlock 1 := ⟨rfl, w6_81, w1_10, ⟨by decide, by decide, by decide +kernel⟩, by decide⟩
abbrev mX9_isTrain : MI := (yX9_isTrain, cX9_isTrain, 2, (some .boolean), [])
theorem w6_198 : Cond.code yX9_isTrain cX9_isTrain 2 (some .boolean) ∈ AL := AL_in (T6 (List.mem_of_getElem? (i := 198) rfl)) rfl
theorem YX9_isTrain : YL mX9_isTrain 1 := ⟨rfl, w6_198, w1_10, ⟨by decide, by decide, by decide +kernel⟩, by decide⟩
abbrev mX9_block : MI := (yX9_block, cX9_block, 3, (some .int), [])
theorem w6_109 : Cond.code yX9_block cX9_block 3 (some .int) ∈ AL := AL_in (T6 (List.mem_of_getElem? (i := 109) rfl)) rfl
theorem YX9_block : YL mX9_block 2 := ⟨rfl, w6_109, w1_10, ⟨by decide, by decide, by decide +kernel⟩, by decide⟩
abbrev mX9_train : MI := (yX9_train, cX9_train, 3, (some .int), [])
theorem w6_117 : Cond.code yX9_train cX9_train 3 (some .int) ∈ AL := AL_in (T6 (List.mem_of_getElem? (i := 117) rfl)) rfl
theorem YX9_train : YL mX9_train 2 := ⟨rfl, w6_117, w1_10, ⟨by decide, by decide, by decide +kernel⟩, by decide⟩
abbrev mX9_sets : MI := (yX9_sets, cX9_sets, 4, none, [])
theorem w6_231 : Cond.code yX9_sets cX9_sets 4 none ∈ AL := AL_in (T6 (List.mem_of_getElem? (i := 231) rfl)) rfl
theorem YX9_sets : YL mX9_sets 3 := ⟨rfl, w6_231, w1_10, ⟨by decide, by decide, by decide +kernel⟩, by decide⟩
abbrev mX9_linked : MI := (yX9_linked, cX9_linked, 3, (some .boolean), [])
theorem w6_85 : Cond.code yX9_linked cX9_linked 3 (some .boolean) ∈ AL := AL_in (T6 (List.mem_of_getElem? (i := 85) rfl)) rfl
theorem YX9_linked : YL mX9_linked 2 := ⟨rfl, w6_85, w1_10, ⟨by decide, by decide, by decide +kernel⟩, by decide⟩
abbrev mX9_links : MI := (yX9_links, cX9_links, 4, (some .int), [])
theorem w6_89 : Cond.code yX9_links cX9_links 4 (some .int) ∈ AL := AL_in (T6 (List.mem_of_getElem? (i := 89) rfl)) rfl
theorem YX9_links : YL mX9_links 0 := ⟨rfl, w6_89, w1_10, ⟨by decide, by decide, by decide +kernel⟩, by decide⟩
abbrev mX9_cats : MI := (yX9_cats, cX9_cats, 3, (some .int), [])
theorem w6_121 : Cond.code yX9_cats cX9_cats 3 (some .int) ∈ AL := AL_in (T6 (List.mem_of_getElem? (i := 121) rfl)) rfl
theorem YX9_cats : YL mX9_cats 0 := ⟨rfl, w6_121, w1_10, ⟨by decide, by decide, by decide +kernel⟩, by decide⟩
abbrev mX9_inside : MI := (yX9_inside, cX9_inside, 3, (some .int), [])
theorem w6_113 : Cond.code yX9_inside cX9_inside 3 (some .int) ∈ AL := AL_in (T6 (List.mem_of_getElem? (i := 113) rfl)) rfl
theorem YX9_inside : YL mX9_inside 1 := ⟨rfl, w6_113, w1_10, ⟨by decide, by decide, by decide +kernel⟩, by decide⟩
abbrev mX9_holder : MI := (yX9_holder, cX9_holder, 2, (some .int), [])
theorem w6_169 : Cond.code yX9_holder cX9_holder 2 (some .int) ∈ AL := AL_in (T6 (List.mem_of_getElem? (i := 169) rfl)) rfl
theorem YX9_holder : YL mX9_holder 1 := ⟨rfl, w6_169, w1_10, ⟨by decide, by decide, by decide +kernel⟩, by decide⟩
abbrev mX9_held : MI := (yX9_held, cX9_held, 3, (some .int), [])
theorem w7_19 : Cond.code yX9_held cX9_held 3 (some .int) ∈ AL := AL_in (T7 (List.mem_of_getElem? (i := 19) rfl)) rfl
theorem YX9_held : YL mX9_held 1 := ⟨rfl, w7_19, w1_10, ⟨by decide, by decide, by decide +kernel⟩, by decide⟩
abbrev mX9_goalOf : MI := (yX9_goalOf, cX9_goalOf, 2, (some .int), [])
theorem w6_206 : Cond.code yX9_goalOf cX9_goalOf 2 (some .int) ∈ AL := AL_in (T6 (List.mem_of_getElem? (i := 206) rfl)) rfl
theorem YX9_goalOf : YL mX9_goalOf 1 := ⟨rfl, w6_206, w1_10, ⟨by decide, by decide, by decide +kernel⟩, by decide⟩
abbrev mX9_ways : MI := (yX9_ways, cX9_ways, 5, none, [])
theorem w6_185 : Cond.code yX9_ways cX9_ways 5 none ∈ AL := AL_in (T6 (List.mem_of_getElem? (i := 185) rfl)) rfl
theorem YX9_ways : YL mX9_ways 1 := ⟨rfl, w6_185, w1_10, ⟨by decide, by decide, by decide +kernel⟩, by decide⟩
abbrev mX9_next : MI := (yX9_next, cX9_next, 5, (some .int), [])
theorem w6_202 : Cond.code yX9_next cX9_next 5 (some .int) ∈ AL := AL_in (T6 (List.mem_of_getElem? (i := 202) rfl)) rfl
theorem YX9_next : YL mX9_next 1 := ⟨rfl, w6_202, w1_10, ⟨by decide, by decide, by decide +kernel⟩, by decide⟩
abbrev mX9_adds : MI := (yX9_adds, cX9_adds, 4, (some .int), [])
theorem w6_46 : Cond.code yX9_adds cX9_adds 4 (some .int) ∈ AL := AL_in (T6 (List.mem_of_getElem? (i := 46) rfl)) rfl
theorem YX9_adds : YL mX9_adds 2 := ⟨rfl, w6_46, w1_10, ⟨by decide, by decide, by decide +kernel⟩, by decide⟩
abbrev mX9_joins : MI := (yX9_joins, cX9_joins, 3, (some .int), [])
theorem w6_77 : Cond.code yX9_joins cX9_joins 3 (some .int) ∈ AL := AL_in (T6 (List.mem_of_getElem? (i := 77) rfl)) rfl
theorem YX9_joins : YL mX9_joins 2 := ⟨rfl, w6_77, w1_10, ⟨by decide, by decide, by decide +kernel⟩, by decide⟩
abbrev mX9_parts : MI := (yX9_parts, cX9_parts, 3, (some .int), [])
theorem w6_97 : Cond.code yX9_parts cX9_parts 3 (some .int) ∈ AL := AL_in (T6 (List.mem_of_getElem? (i := 97) rfl)) rfl
theorem YX9_parts : YL mX9_parts 2 := ⟨rfl, w6_97, w1_10, ⟨by decide, by decide, by decide +kernel⟩, by decide⟩
abbrev mX9_seats : MI := (yX9_seats, cX9_seats, 2, (some .int), [])
theorem w6_105 : Cond.code yX9_seats cX9_seats 2 (some .int) ∈ AL := AL_in (T6 (List.mem_of_getElem? (i := 105) rfl)) rfl
theorem YX9_seats : YL mX9_seats 1 := ⟨rfl, w6_105, w1_10, ⟨by decide, by decide, by decide +kernel⟩, by decide⟩
abbrev mX9_shoos : MI := (yX9_shoos, cX9_shoos, 2, (some .int), [])
theorem w6_129 : Cond.code yX9_shoos cX9_shoos 2 (some .int) ∈ AL := AL_in (T6 (List.mem_of_getElem? (i := 129) rfl)) rfl
theorem YX9_shoos : YL mX9_shoos 1 := ⟨rfl, w6_129, w1_10, ⟨by decide, by decide, by decide +kernel⟩, by decide⟩
abbrev mX9_starts : MI := (yX9_starts, cX9_starts, 5, (some .int), [])
theorem w6_227 : Cond.code yX9_starts cX9_starts 5 (some .int) ∈ AL := AL_in (T6 (List.mem_of_getElem? (i := 227) rfl)) rfl
theorem YX9_starts : YL mX9_starts 2 := ⟨rfl, w6_227, w1_10, ⟨by decide, by decide, by decide +kernel⟩, by decide⟩
abbrev mX9_aims : MI := (yX9_aims, cX9_aims, 3, (some .int), [])
theorem w6_239 : Cond.code yX9_aims cX9_aims 3 (some .int) ∈ AL := AL_in (T6 (List.mem_of_getElem? (i := 239) rfl)) rfl
theorem YX9_aims : YL mX9_aims 2 := ⟨rfl, w6_239, w1_10, ⟨by decide, by decide, by decide +kernel⟩, by decide⟩
abbrev mX9_forgets : MI := (yX9_forgets, cX9_forgets, 3, (some .int), [])
theorem w7_7 : Cond.code yX9_forgets cX9_forgets 3 (some .int) ∈ AL := AL_in (T7 (List.mem_of_getElem? (i := 7) rfl)) rfl
theorem YX9_forgets : YL mX9_forgets 1 := ⟨rfl, w7_7, w1_10, ⟨by decide, by decide, by decide +kernel⟩, by decide⟩
abbrev mX9_holds : MI := (yX9_holds, cX9_holds, 5, (some .int), [])
theorem w7_15 : Cond.code yX9_holds cX9_holds 5 (some .int) ∈ AL := AL_in (T7 (List.mem_of_getElem? (i := 15) rfl)) rfl
theorem YX9_holds : YL mX9_holds 2 := ⟨rfl, w7_15, w1_10, ⟨by decide, by decide, by decide +kernel⟩, by decide⟩
abbrev mX9_frees : MI := (yX9_frees, cX9_frees, 3, (some .int), [])
theorem w7_27 : Cond.code yX9_frees cX9_frees 3 (some .int) ∈ AL := AL_in (T7 (List.mem_of_getElem? (i := 27) rfl)) rfl
theorem YX9_frees : YL mX9_frees 1 := ⟨rfl, w7_27, w1_10, ⟨by decide, by decide, by decide +kernel⟩, by decide⟩
abbrev mX9_rescues : MI := (yX9_rescues, cX9_rescues, 4, (some .int), [])
theorem w7_35 : Cond.code yX9_rescues cX9_rescues 4 (some .int) ∈ AL := AL_in (T7 (List.mem_of_getElem? (i := 35) rfl)) rfl
theorem YX9_rescues : YL mX9_rescues 1 := ⟨rfl, w7_35, w1_10, ⟨by decide, by decide, by decide +kernel⟩, by decide⟩
abbrev mX9_ranked : MI := (yX9_ranked, cX9_ranked, 5, (some .int), [])
theorem w7_75 : Cond.code yX9_ranked cX9_ranked 5 (some .int) ∈ AL := AL_in (T7 (List.mem_of_getElem? (i := 75) rfl)) rfl
theorem YX9_ranked : YL mX9_ranked 1 := ⟨rfl, w7_75, w1_10, ⟨by decide, by decide, by decide +kernel⟩, by decide⟩
abbrev mX9_acts : MI := (yX9_acts, cX9_acts, 4, (some .boolean), [])
theorem w7_108 : Cond.code yX9_acts cX9_acts 4 (some .boolean) ∈ AL := AL_in (T7 (List.mem_of_getElem? (i := 108) rfl)) rfl
theorem YX9_acts : YL mX9_acts 1 := ⟨rfl, w7_108, w1_10, ⟨by decide, by decide, by decide +kernel⟩, by decide⟩
abbrev mX9_oneTick : MI := (yX9_oneTick, cX9_oneTick, 4, (some .int), [])
theorem w7_104 : Cond.code yX9_oneTick cX9_oneTick 4 (some .int) ∈ AL := AL_in (T7 (List.mem_of_getElem? (i := 104) rfl)) rfl
theorem YX9_oneTick : YL mX9_oneTick 0 := ⟨rfl, w7_104, w1_10, ⟨by decide, by decide, by decide +kernel⟩, by decide⟩
abbrev mX9_passes : MI := (yX9_passes, cX9_passes, 5, (some .int), [])
theorem w7_100 : Cond.code yX9_passes cX9_passes 5 (some .int) ∈ AL := AL_in (T7 (List.mem_of_getElem? (i := 100) rfl)) rfl
theorem YX9_passes : YL mX9_passes 1 := ⟨rfl, w7_100, w1_10, ⟨by decide, by decide, by decide +kernel⟩, by decide⟩
abbrev mX9_addBlock : MI := (yX9_addBlock, cX9_addBlock, 2, (some .int), [])
theorem w6_38 : Cond.code yX9_addBlock cX9_addBlock 2 (some .int) ∈ AL := AL_in (T6 (List.mem_of_getElem? (i := 38) rfl)) rfl
theorem YX9_addBlock : YL mX9_addBlock 1 := ⟨rfl, w6_38, w1_10, ⟨by decide, by decide, by decide +kernel⟩, by decide⟩
abbrev mX9_addCushion : MI := (yX9_addCushion, cX9_addCushion, 2, (some .int), [])
theorem w6_69 : Cond.code yX9_addCushion cX9_addCushion 2 (some .int) ∈ AL := AL_in (T6 (List.mem_of_getElem? (i := 69) rfl)) rfl
theorem YX9_addCushion : YL mX9_addCushion 1 := ⟨rfl, w6_69, w1_10, ⟨by decide, by decide, by decide +kernel⟩, by decide⟩
abbrev mX9_link : MI := (yX9_link, cX9_link, 3, (some .int), [])
theorem w6_73 : Cond.code yX9_link cX9_link 3 (some .int) ∈ AL := AL_in (T6 (List.mem_of_getElem? (i := 73) rfl)) rfl
theorem YX9_link : YL mX9_link 2 := ⟨rfl, w6_73, w1_10, ⟨by decide, by decide, by decide +kernel⟩, by decide⟩
abbrev mX9_unlink : MI := (yX9_unlink, cX9_unlink, 3, (some .int), [])
theorem w6_93 : Cond.code yX9_unlink cX9_unlink 3 (some .int) ∈ AL := AL_in (T6 (List.mem_of_getElem? (i := 93) rfl)) rfl
theorem YX9_unlink : YL mX9_unlink 2 := ⟨rfl, w6_93, w1_10, ⟨by decide, by decide, by decide +kernel⟩, by decide⟩
abbrev mX9_putCat : MI := (yX9_putCat, cX9_putCat, 2, (some .int), [])
theorem w6_101 : Cond.code yX9_putCat cX9_putCat 2 (some .int) ∈ AL := AL_in (T6 (List.mem_of_getElem? (i := 101) rfl)) rfl
theorem YX9_putCat : YL mX9_putCat 1 := ⟨rfl, w6_101, w1_10, ⟨by decide, by decide, by decide +kernel⟩, by decide⟩
abbrev mX9_removeCat : MI := (yX9_removeCat, cX9_removeCat, 2, (some .int), [])
theorem w6_125 : Cond.code yX9_removeCat cX9_removeCat 2 (some .int) ∈ AL := AL_in (T6 (List.mem_of_getElem? (i := 125) rfl)) rfl
theorem YX9_removeCat : YL mX9_removeCat 1 := ⟨rfl, w6_125, w1_10, ⟨by decide, by decide, by decide +kernel⟩, by decide⟩
abbrev mX9_blockCount : MI := (yX9_blockCount, cX9_blockCount, 1, (some .int), [])
theorem w6_133 : Cond.code yX9_blockCount cX9_blockCount 1 (some .int) ∈ AL := AL_in (T6 (List.mem_of_getElem? (i := 133) rfl)) rfl
theorem YX9_blockCount : YL mX9_blockCount 0 := ⟨rfl, w6_133, w1_10, ⟨by decide, by decide, by decide +kernel⟩, by decide⟩
abbrev mX9_askedBlock : MI := (yX9_askedBlock, cX9_askedBlock, 3, (some .int), [])
theorem w6_141 : Cond.code yX9_askedBlock cX9_askedBlock 3 (some .int) ∈ AL := AL_in (T6 (List.mem_of_getElem? (i := 141) rfl)) rfl
theorem YX9_askedBlock : YL mX9_askedBlock 2 := ⟨rfl, w6_141, w1_10, ⟨by decide, by decide, by decide +kernel⟩, by decide⟩
abbrev mX9_length : MI := (yX9_length, cX9_length, 2, (some .int), [])
theorem w6_137 : Cond.code yX9_length cX9_length 2 (some .int) ∈ AL := AL_in (T6 (List.mem_of_getElem? (i := 137) rfl)) rfl
theorem YX9_length : YL mX9_length 1 := ⟨rfl, w6_137, w1_10, ⟨by decide, by decide, by decide +kernel⟩, by decide⟩
abbrev mX9_isCushion : MI := (yX9_isCushion, cX9_isCushion, 2, (some .boolean), [])
theorem w6_145 : Cond.code yX9_isCushion cX9_isCushion 2 (some .boolean) ∈ AL := AL_in (T6 (List.mem_of_getElem? (i := 145) rfl)) rfl
theorem YX9_isCushion : YL mX9_isCushion 1 := ⟨rfl, w6_145, w1_10, ⟨by decide, by decide, by decide +kernel⟩, by decide⟩
abbrev mX9_hasCat : MI := (yX9_hasCat, cX9_hasCat, 2, (some .boolean), [])
theorem w6_149 : Cond.code yX9_hasCat cX9_hasCat 2 (some .boolean) ∈ AL := AL_in (T6 (List.mem_of_getElem? (i := 149) rfl)) rfl
theorem YX9_hasCat : YL mX9_hasCat 1 := ⟨rfl, w6_149, w1_10, ⟨by decide, by decide, by decide +kernel⟩, by decide⟩
abbrev mX9_areLinked : MI := (yX9_areLinked, cX9_areLinked, 3, (some .boolean), [])
theorem w6_153 : Cond.code yX9_areLinked cX9_areLinked 3 (some .boolean) ∈ AL := AL_in (T6 (List.mem_of_getElem? (i := 153) rfl)) rfl
theorem YX9_areLinked : YL mX9_areLinked 2 := ⟨rfl, w6_153, w1_10, ⟨by decide, by decide, by decide +kernel⟩, by decide⟩
abbrev mX9_degree : MI := (yX9_degree, cX9_degree, 4, (some .int), [])
theorem w6_157 : Cond.code yX9_degree cX9_degree 4 (some .int) ∈ AL := AL_in (T6 (List.mem_of_getElem? (i := 157) rfl)) rfl
theorem YX9_degree : YL mX9_degree 1 := ⟨rfl, w6_157, w1_10, ⟨by decide, by decide, by decide +kernel⟩, by decide⟩
abbrev mX9_trainIn : MI := (yX9_trainIn, cX9_trainIn, 2, (some .int), [])
theorem w6_161 : Cond.code yX9_trainIn cX9_trainIn 2 (some .int) ∈ AL := AL_in (T6 (List.mem_of_getElem? (i := 161) rfl)) rfl
theorem YX9_trainIn : YL mX9_trainIn 1 := ⟨rfl, w6_161, w1_10, ⟨by decide, by decide, by decide +kernel⟩, by decide⟩
abbrev mX9_reservedBy : MI := (yX9_reservedBy, cX9_reservedBy, 2, (some .int), [])
theorem w6_165 : Cond.code yX9_reservedBy cX9_reservedBy 2 (some .int) ∈ AL := AL_in (T6 (List.mem_of_getElem? (i := 165) rfl)) rfl
theorem YX9_reservedBy : YL mX9_reservedBy 1 := ⟨rfl, w6_165, w1_10, ⟨by decide, by decide, by decide +kernel⟩, by decide⟩
abbrev mX9_sign : MI := (yX9_sign, cX9_sign, 2, (some .int), [])
theorem w6_177 : Cond.code yX9_sign cX9_sign 2 (some .int) ∈ AL := AL_in (T6 (List.mem_of_getElem? (i := 177) rfl)) rfl
theorem YX9_sign : YL mX9_sign 1 := ⟨rfl, w6_177, w1_10, ⟨by decide, by decide, by decide +kernel⟩, by decide⟩
abbrev mX9_signal : MI := (yX9_signal, cX9_signal, 2, (some .char), [])
theorem w6_173 : Cond.code yX9_signal cX9_signal 2 (some .char) ∈ AL := AL_in (T6 (List.mem_of_getElem? (i := 173) rfl)) rfl
theorem YX9_signal : YL mX9_signal 1 := ⟨rfl, w6_173, w1_10, ⟨by decide, by decide, by decide +kernel⟩, by decide⟩
abbrev mX9_distance : MI := (yX9_distance, cX9_distance, 3, (some .int), [])
theorem w6_181 : Cond.code yX9_distance cX9_distance 3 (some .int) ∈ AL := AL_in (T6 (List.mem_of_getElem? (i := 181) rfl)) rfl
theorem YX9_distance : YL mX9_distance 2 := ⟨rfl, w6_181, w1_10, ⟨by decide, by decide, by decide +kernel⟩, by decide⟩
abbrev mX9_distanceByRounds : MI := (yX9_distanceByRounds, cX9_distanceByRounds, 3, (some .int), [])
theorem w6_189 : Cond.code yX9_distanceByRounds cX9_distanceByRounds 3 (some .int) ∈ AL := AL_in (T6 (List.mem_of_getElem? (i := 189) rfl)) rfl
theorem YX9_distanceByRounds : YL mX9_distanceByRounds 2 := ⟨rfl, w6_189, w1_10, ⟨by decide, by decide, by decide +kernel⟩, by decide⟩
abbrev mX9_nextBlock : MI := (yX9_nextBlock, cX9_nextBlock, 3, (some .int), [])
theorem w6_194 : Cond.code yX9_nextBlock cX9_nextBlock 3 (some .int) ∈ AL := AL_in (T6 (List.mem_of_getElem? (i := 194) rfl)) rfl
theorem YX9_nextBlock : YL mX9_nextBlock 1 := ⟨rfl, w6_194, w1_10, ⟨by decide, by decide, by decide +kernel⟩, by decide⟩
abbrev mX9_partCount : MI := (yX9_partCount, cX9_partCount, 5, (some .int), [])
theorem w6_210 : Cond.code yX9_partCount cX9_partCount 5 (some .int) ∈ AL := AL_in (T6 (List.mem_of_getElem? (i := 210) rfl)) rfl
theorem YX9_partCount : YL mX9_partCount 0 := ⟨rfl, w6_210, w1_10, ⟨by decide, by decide, by decide +kernel⟩, by decide⟩
abbrev mX9_partCountByUnions : MI := (yX9_partCountByUnions, cX9_partCountByUnions, 1, (some .int), [])
theorem w6_214 : Cond.code yX9_partCountByUnions cX9_partCountByUnions 1 (some .int) ∈ AL := AL_in (T6 (List.mem_of_getElem? (i := 214) rfl)) rfl
theorem YX9_partCountByUnions : YL mX9_partCountByUnions 0 := ⟨rfl, w6_214, w1_10, ⟨by decide, by decide, by decide +kernel⟩, by decide⟩
abbrev mX9_nearestCushion : MI := (yX9_nearestCushion, cX9_nearestCushion, 5, (some .int), [])
theorem w6_219 : Cond.code yX9_nearestCushion cX9_nearestCushion 5 (some .int) ∈ AL := AL_in (T6 (List.mem_of_getElem? (i := 219) rfl)) rfl
theorem YX9_nearestCushion : YL mX9_nearestCushion 1 := ⟨rfl, w6_219, w1_10, ⟨by decide, by decide, by decide +kernel⟩, by decide⟩
abbrev mX9_addTrain : MI := (yX9_addTrain, cX9_addTrain, 3, (some .int), [])
theorem w6_223 : Cond.code yX9_addTrain cX9_addTrain 3 (some .int) ∈ AL := AL_in (T6 (List.mem_of_getElem? (i := 223) rfl)) rfl
theorem YX9_addTrain : YL mX9_addTrain 2 := ⟨rfl, w6_223, w1_10, ⟨by decide, by decide, by decide +kernel⟩, by decide⟩
abbrev mX9_setGoal : MI := (yX9_setGoal, cX9_setGoal, 3, (some .int), [])
theorem w6_235 : Cond.code yX9_setGoal cX9_setGoal 3 (some .int) ∈ AL := AL_in (T6 (List.mem_of_getElem? (i := 235) rfl)) rfl
theorem YX9_setGoal : YL mX9_setGoal 2 := ⟨rfl, w6_235, w1_10, ⟨by decide, by decide, by decide +kernel⟩, by decide⟩
abbrev mX9_clearGoal : MI := (yX9_clearGoal, cX9_clearGoal, 2, (some .int), [])
theorem w7_3 : Cond.code yX9_clearGoal cX9_clearGoal 2 (some .int) ∈ AL := AL_in (T7 (List.mem_of_getElem? (i := 3) rfl)) rfl
theorem YX9_clearGoal : YL mX9_clearGoal 1 := ⟨rfl, w7_3, w1_10, ⟨by decide, by decide, by decide +kernel⟩, by decide⟩
abbrev mX9_reserve : MI := (yX9_reserve, cX9_reserve, 3, (some .int), [])
theorem w7_11 : Cond.code yX9_reserve cX9_reserve 3 (some .int) ∈ AL := AL_in (T7 (List.mem_of_getElem? (i := 11) rfl)) rfl
theorem YX9_reserve : YL mX9_reserve 2 := ⟨rfl, w7_11, w1_10, ⟨by decide, by decide, by decide +kernel⟩, by decide⟩
abbrev mX9_cancelReservation : MI := (yX9_cancelReservation, cX9_cancelReservation, 2, (some .int), [])
theorem w7_23 : Cond.code yX9_cancelReservation cX9_cancelReservation 2 (some .int) ∈ AL := AL_in (T7 (List.mem_of_getElem? (i := 23) rfl)) rfl
theorem YX9_cancelReservation : YL mX9_cancelReservation 1 := ⟨rfl, w7_23, w1_10, ⟨by decide, by decide, by decide +kernel⟩, by decide⟩
abbrev mX9_rescue : MI := (yX9_rescue, cX9_rescue, 2, (some .int), [])
theorem w7_31 : Cond.code yX9_rescue cX9_rescue 2 (some .int) ∈ AL := AL_in (T7 (List.mem_of_getElem? (i := 31) rfl)) rfl
theorem YX9_rescue : YL mX9_rescue 1 := ⟨rfl, w7_31, w1_10, ⟨by decide, by decide, by decide +kernel⟩, by decide⟩
abbrev mX9_trainCount : MI := (yX9_trainCount, cX9_trainCount, 1, (some .int), [])
theorem w7_39 : Cond.code yX9_trainCount cX9_trainCount 1 (some .int) ∈ AL := AL_in (T7 (List.mem_of_getElem? (i := 39) rfl)) rfl
theorem YX9_trainCount : YL mX9_trainCount 0 := ⟨rfl, w7_39, w1_10, ⟨by decide, by decide, by decide +kernel⟩, by decide⟩
abbrev mX9_asked : MI := (yX9_asked, cX9_asked, 3, (some .int), [])
theorem w7_47 : Cond.code yX9_asked cX9_asked 3 (some .int) ∈ AL := AL_in (T7 (List.mem_of_getElem? (i := 47) rfl)) rfl
theorem YX9_asked : YL mX9_asked 2 := ⟨rfl, w7_47, w1_10, ⟨by decide, by decide, by decide +kernel⟩, by decide⟩
abbrev mX9_blockOf : MI := (yX9_blockOf, cX9_blockOf, 2, (some .int), [])
theorem w7_43 : Cond.code yX9_blockOf cX9_blockOf 2 (some .int) ∈ AL := AL_in (T7 (List.mem_of_getElem? (i := 43) rfl)) rfl
theorem YX9_blockOf : YL mX9_blockOf 1 := ⟨rfl, w7_43, w1_10, ⟨by decide, by decide, by decide +kernel⟩, by decide⟩
abbrev mX9_priority : MI := (yX9_priority, cX9_priority, 2, (some .int), [])
theorem w7_51 : Cond.code yX9_priority cX9_priority 2 (some .int) ∈ AL := AL_in (T7 (List.mem_of_getElem? (i := 51) rfl)) rfl
theorem YX9_priority : YL mX9_priority 1 := ⟨rfl, w7_51, w1_10, ⟨by decide, by decide, by decide +kernel⟩, by decide⟩
abbrev mX9_remainingTicks : MI := (yX9_remainingTicks, cX9_remainingTicks, 2, (some .int), [])
theorem w7_55 : Cond.code yX9_remainingTicks cX9_remainingTicks 2 (some .int) ∈ AL := AL_in (T7 (List.mem_of_getElem? (i := 55) rfl)) rfl
theorem YX9_remainingTicks : YL mX9_remainingTicks 1 := ⟨rfl, w7_55, w1_10, ⟨by decide, by decide, by decide +kernel⟩, by decide⟩
abbrev mX9_goal : MI := (yX9_goal, cX9_goal, 2, (some .int), [])
theorem w7_59 : Cond.code yX9_goal cX9_goal 2 (some .int) ∈ AL := AL_in (T7 (List.mem_of_getElem? (i := 59) rfl)) rfl
theorem YX9_goal : YL mX9_goal 1 := ⟨rfl, w7_59, w1_10, ⟨by decide, by decide, by decide +kernel⟩, by decide⟩
abbrev mX9_isDerailed : MI := (yX9_isDerailed, cX9_isDerailed, 2, (some .boolean), [])
theorem w7_63 : Cond.code yX9_isDerailed cX9_isDerailed 2 (some .boolean) ∈ AL := AL_in (T7 (List.mem_of_getElem? (i := 63) rfl)) rfl
theorem YX9_isDerailed : YL mX9_isDerailed 1 := ⟨rfl, w7_63, w1_10, ⟨by decide, by decide, by decide +kernel⟩, by decide⟩
abbrev mX9_waits : MI := (yX9_waits, cX9_waits, 2, (some .int), [])
theorem w7_67 : Cond.code yX9_waits cX9_waits 2 (some .int) ∈ AL := AL_in (T7 (List.mem_of_getElem? (i := 67) rfl)) rfl
theorem YX9_waits : YL mX9_waits 1 := ⟨rfl, w7_67, w1_10, ⟨by decide, by decide, by decide +kernel⟩, by decide⟩
abbrev mX9_trainByPriority : MI := (yX9_trainByPriority, cX9_trainByPriority, 3, (some .int), [])
theorem w7_71 : Cond.code yX9_trainByPriority cX9_trainByPriority 3 (some .int) ∈ AL := AL_in (T7 (List.mem_of_getElem? (i := 71) rfl)) rfl
theorem YX9_trainByPriority : YL mX9_trainByPriority 1 := ⟨rfl, w7_71, w1_10, ⟨by decide, by decide, by decide +kernel⟩, by decide⟩
abbrev mX9_blocker : MI := (yX9_blocker, cX9_blocker, 3, (some .int), [])
theorem w7_83 : Cond.code yX9_blocker cX9_blocker 3 (some .int) ∈ AL := AL_in (T7 (List.mem_of_getElem? (i := 83) rfl)) rfl
theorem YX9_blocker : YL mX9_blocker 1 := ⟨rfl, w7_83, w1_10, ⟨by decide, by decide, by decide +kernel⟩, by decide⟩
abbrev mX9_blockedBy : MI := (yX9_blockedBy, cX9_blockedBy, 3, (some .int), [])
theorem w7_79 : Cond.code yX9_blockedBy cX9_blockedBy 3 (some .int) ∈ AL := AL_in (T7 (List.mem_of_getElem? (i := 79) rfl)) rfl
theorem YX9_blockedBy : YL mX9_blockedBy 1 := ⟨rfl, w7_79, w1_10, ⟨by decide, by decide, by decide +kernel⟩, by decide⟩
abbrev mX9_deadlocked : MI := (yX9_deadlocked, cX9_deadlocked, 5, (some .int), [])
theorem w7_87 : Cond.code yX9_deadlocked cX9_deadlocked 5 (some .int) ∈ AL := AL_in (T7 (List.mem_of_getElem? (i := 87) rfl)) rfl
theorem YX9_deadlocked : YL mX9_deadlocked 0 := ⟨rfl, w7_87, w1_10, ⟨by decide, by decide, by decide +kernel⟩, by decide⟩
abbrev mX9_deadlockedByTable : MI := (yX9_deadlockedByTable, cX9_deadlockedByTable, 1, (some .int), [])
theorem w7_91 : Cond.code yX9_deadlockedByTable cX9_deadlockedByTable 1 (some .int) ∈ AL := AL_in (T7 (List.mem_of_getElem? (i := 91) rfl)) rfl
theorem YX9_deadlockedByTable : YL mX9_deadlockedByTable 0 := ⟨rfl, w7_91, w1_10, ⟨by decide, by decide, by decide +kernel⟩, by decide⟩
abbrev mX9_passTicks : MI := (yX9_passTicks, cX9_passTicks, 2, (some .int), [])
theorem w7_96 : Cond.code yX9_passTicks cX9_passTicks 2 (some .int) ∈ AL := AL_in (T7 (List.mem_of_getElem? (i := 96) rfl)) rfl
theorem YX9_passTicks : YL mX9_passTicks 1 := ⟨rfl, w7_96, w1_10, ⟨by decide, by decide, by decide +kernel⟩, by decide⟩
abbrev mX9_ticks : MI := (yX9_ticks, cX9_ticks, 1, (some .int), [])
theorem w7_112 : Cond.code yX9_ticks cX9_ticks 1 (some .int) ∈ AL := AL_in (T7 (List.mem_of_getElem? (i := 112) rfl)) rfl
theorem YX9_ticks : YL mX9_ticks 0 := ⟨rfl, w7_112, w1_10, ⟨by decide, by decide, by decide +kernel⟩, by decide⟩
abbrev mX9_arrivals : MI := (yX9_arrivals, cX9_arrivals, 1, (some .int), [])
theorem w7_116 : Cond.code yX9_arrivals cX9_arrivals 1 (some .int) ∈ AL := AL_in (T7 (List.mem_of_getElem? (i := 116) rfl)) rfl
theorem YX9_arrivals : YL mX9_arrivals 0 := ⟨rfl, w7_116, w1_10, ⟨by decide, by decide, by decide +kernel⟩, by decide⟩
abbrev mX9_ticksUntilArrival : MI := (yX9_ticksUntilArrival, cX9_ticksUntilArrival, 4, (some .int), [])
theorem w7_120 : Cond.code yX9_ticksUntilArrival cX9_ticksUntilArrival 4 (some .int) ∈ AL := AL_in (T7 (List.mem_of_getElem? (i := 120) rfl)) rfl
theorem YX9_ticksUntilArrival : YL mX9_ticksUntilArrival 1 := ⟨rfl, w7_120, w1_10, ⟨by decide, by decide, by decide +kernel⟩, by decide⟩
abbrev mX9_meanWaits : MI := (yX9_meanWaits, cX9_meanWaits, 3, (some .double), [])
theorem w7_124 : Cond.code yX9_meanWaits cX9_meanWaits 3 (some .double) ∈ AL := AL_in (T7 (List.mem_of_getElem? (i := 124) rfl)) rfl
theorem YX9_meanWaits : YL mX9_meanWaits 0 := ⟨rfl, w7_124, w1_10, ⟨by decide, by decide, by decide +kernel⟩, by decide⟩
abbrev mX9_occupiedFraction : MI := (yX9_occupiedFraction, cX9_occupiedFraction, 1, (some .float), [])
theorem w7_128 : Cond.code yX9_occupiedFraction cX9_occupiedFraction 1 (some .float) ∈ AL := AL_in (T7 (List.mem_of_getElem? (i := 128) rfl)) rfl
theorem YX9_occupiedFraction : YL mX9_occupiedFraction 0 := ⟨rfl, w7_128, w1_10, ⟨by decide, by decide, by decide +kernel⟩, by decide⟩
abbrev mX9_writes : MI := (yX9_writes, cX9_writes, 2, none, [])
theorem w7_136 : Cond.code yX9_writes cX9_writes 2 none ∈ AL := AL_in (T7 (List.mem_of_getElem? (i := 136) rfl)) rfl
theorem YX9_writes : YL mX9_writes 1 := ⟨rfl, w7_136, w1_10, ⟨by decide, by decide, by decide +kernel⟩, by decide⟩
abbrev mX9_writesNumber : MI := (yX9_writesNumber, cX9_writesNumber, 2, none, [])
theorem w7_140 : Cond.code yX9_writesNumber cX9_writesNumber 2 none ∈ AL := AL_in (T7 (List.mem_of_getElem? (i := 140) rfl)) rfl
theorem YX9_writesNumber : YL mX9_writesNumber 1 := ⟨rfl, w7_140, w1_10, ⟨by decide, by decide, by decide +kernel⟩, by decide⟩
abbrev mX9_writeTrain : MI := (yX9_writeTrain, cX9_writeTrain, 2, (some .int), [])
theorem w7_132 : Cond.code yX9_writeTrain cX9_writeTrain 2 (some .int) ∈ AL := AL_in (T7 (List.mem_of_getElem? (i := 132) rfl)) rfl
theorem YX9_writeTrain : YL mX9_writeTrain 1 := ⟨rfl, w7_132, w1_10, ⟨by decide, by decide, by decide +kernel⟩, by decide⟩
abbrev mX9_writeSignals : MI := (yX9_writeSignals, cX9_writeSignals, 2, (some .int), [])
theorem w7_144 : Cond.code yX9_writeSignals cX9_writeSignals 2 (some .int) ∈ AL := AL_in (T7 (List.mem_of_getElem? (i := 144) rfl)) rfl
theorem YX9_writeSignals : YL mX9_writeSignals 0 := ⟨rfl, w7_144, w1_10, ⟨by decide, by decide, by decide +kernel⟩, by decide⟩
abbrev mX9_outputCharacter : MI := (yX9_outputCharacter, cX9_outputCharacter, 2, (some .char), [])
theorem w7_148 : Cond.code yX9_outputCharacter cX9_outputCharacter 2 (some .char) ∈ AL := AL_in (T7 (List.mem_of_getElem? (i := 148) rfl)) rfl
theorem YX9_outputCharacter : YL mX9_outputCharacter 1 := ⟨rfl, w7_148, w1_10, ⟨by decide, by decide, by decide +kernel⟩, by decide⟩
abbrev mX9_isConsistent : MI := (yX9_isConsistent, cX9_isConsistent, 1, (some .boolean), [])
theorem w7_152 : Cond.code yX9_isConsistent cX9_isConsistent 1 (some .boolean) ∈ AL := AL_in (T7 (List.mem_of_getElem? (i := 152) rfl)) rfl
theorem YX9_isConsistent : YL mX9_isConsistent 0 := ⟨rfl, w7_152, w1_10, ⟨by decide, by decide, by decide +kernel⟩, by decide⟩
abbrev mX9_feed : MI := (yX9_feed, cX9_feed, 2, (some .int), [])
theorem w7_156 : Cond.code yX9_feed cX9_feed 2 (some .int) ∈ AL := AL_in (T7 (List.mem_of_getElem? (i := 156) rfl)) rfl
theorem YX9_feed : YL mX9_feed 1 := ⟨rfl, w7_156, w1_10, ⟨by decide, by decide, by decide +kernel⟩, by decide⟩
abbrev mX9_here : MI := (yX9_here, cX9_here, 2, (some .int), [])
theorem w7_168 : Cond.code yX9_here cX9_here 2 (some .int) ∈ AL := AL_in (T7 (List.mem_of_getElem? (i := 168) rfl)) rfl
theorem YX9_here : YL mX9_here 1 := ⟨rfl, w7_168, w1_10, ⟨by decide, by decide, by decide +kernel⟩, by decide⟩
abbrev mX9_says : MI := (yX9_says, cX9_says, 3, none, [])
theorem w7_177 : Cond.code yX9_says cX9_says 3 none ∈ AL := AL_in (T7 (List.mem_of_getElem? (i := 177) rfl)) rfl
theorem YX9_says : YL mX9_says 1 := ⟨rfl, w7_177, w1_10, ⟨by decide, by decide, by decide +kernel⟩, by decide⟩
abbrev mX9_number : MI := (yX9_number, cX9_number, 5, none, [])
theorem w7_183 : Cond.code yX9_number cX9_number 5 none ∈ AL := AL_in (T7 (List.mem_of_getElem? (i := 183) rfl)) rfl
theorem YX9_number : YL mX9_number 2 := ⟨rfl, w7_183, w1_10, ⟨by decide, by decide, by decide +kernel⟩, by decide⟩
abbrev mX9_one : MI := (yX9_one, cX9_one, 4, none, [])
theorem w7_173 : Cond.code yX9_one cX9_one 4 none ∈ AL := AL_in (T7 (List.mem_of_getElem? (i := 173) rfl)) rfl
theorem YX9_one : YL mX9_one 3 := ⟨rfl, w7_173, w1_10, ⟨by decide, by decide, by decide +kernel⟩, by decide⟩
abbrev mX9_two : MI := (yX9_two, cX9_two, 6, none, [])
theorem w7_191 : Cond.code yX9_two cX9_two 6 none ∈ AL := AL_in (T7 (List.mem_of_getElem? (i := 191) rfl)) rfl
theorem YX9_two : YL mX9_two 5 := ⟨rfl, w7_191, w1_10, ⟨by decide, by decide, by decide +kernel⟩, by decide⟩
abbrev mX9_readsOne : MI := (yX9_readsOne, cX9_readsOne, 1, none, [])
theorem w7_164 : Cond.code yX9_readsOne cX9_readsOne 1 none ∈ AL := AL_in (T7 (List.mem_of_getElem? (i := 164) rfl)) rfl
theorem YX9_readsOne : YL mX9_readsOne 0 := ⟨rfl, w7_164, w1_10, ⟨by decide, by decide, by decide +kernel⟩, by decide⟩
abbrev mX9_does : MI := (yX9_does, cX9_does, 4, (some .int), [])
theorem w7_203 : Cond.code yX9_does cX9_does 4 (some .int) ∈ AL := AL_in (T7 (List.mem_of_getElem? (i := 203) rfl)) rfl
theorem YX9_does : YL mX9_does 1 := ⟨rfl, w7_203, w1_10, ⟨by decide, by decide, by decide +kernel⟩, by decide⟩
abbrev mX9_execute : MI := (yX9_execute, cX9_execute, 3, (some .int), [])
theorem w7_160 : Cond.code yX9_execute cX9_execute 3 (some .int) ∈ AL := AL_in (T7 (List.mem_of_getElem? (i := 160) rfl)) rfl
theorem YX9_execute : YL mX9_execute 0 := ⟨rfl, w7_160, w1_10, ⟨by decide, by decide, by decide +kernel⟩, by decide⟩
abbrev mX9_errorPosition : MI := (yX9_errorPosition, cX9_errorPosition, 1, (some .int), [])
theorem w7_207 : Cond.code yX9_errorPosition cX9_errorPosition 1 (some .int) ∈ AL := AL_in (T7 (List.mem_of_getElem? (i := 207) rfl)) rfl
theorem YX9_errorPosition : YL mX9_errorPosition 0 := ⟨rfl, w7_207, w1_10, ⟨by decide, by decide, by decide +kernel⟩, by decide⟩
abbrev mX9_failedCommand : MI := (yX9_failedCommand, cX9_failedCommand, 1, (some .int), [])
theorem w7_211 : Cond.code yX9_failedCommand cX9_failedCommand 1 (some .int) ∈ AL := AL_in (T7 (List.mem_of_getElem? (i := 211) rfl)) rfl
theorem YX9_failedCommand : YL mX9_failedCommand 0 := ⟨rfl, w7_211, w1_10, ⟨by decide, by decide, by decide +kernel⟩, by decide⟩
abbrev mX9_undo : MI := (yX9_undo, cX9_undo, 2, (some .int), [])
theorem w7_215 : Cond.code yX9_undo cX9_undo 2 (some .int) ∈ AL := AL_in (T7 (List.mem_of_getElem? (i := 215) rfl)) rfl
theorem YX9_undo : YL mX9_undo 0 := ⟨rfl, w7_215, w1_10, ⟨by decide, by decide, by decide +kernel⟩, by decide⟩
abbrev mX9_undoCount : MI := (yX9_undoCount, cX9_undoCount, 1, (some .int), [])
theorem w7_219 : Cond.code yX9_undoCount cX9_undoCount 1 (some .int) ∈ AL := AL_in (T7 (List.mem_of_getElem? (i := 219) rfl)) rfl
theorem YX9_undoCount : YL mX9_undoCount 0 := ⟨rfl, w7_219, w1_10, ⟨by decide, by decide, by decide +kernel⟩, by decide⟩
abbrev mX9_save : MI := (yX9_save, cX9_save, 2, (some .int), [])
theorem w7_223 : Cond.code yX9_save cX9_save 2 (some .int) ∈ AL := AL_in (T7 (List.mem_of_getElem? (i := 223) rfl)) rfl
theorem YX9_save : YL mX9_save 0 := ⟨rfl, w7_223, w1_10, ⟨by decide, by decide, by decide +kernel⟩, by decide⟩
abbrev mX9_restore : MI := (yX9_restore, cX9_restore, 2, (some .int), [])
theorem w7_227 : Cond.code yX9_restore cX9_restore 2 (some .int) ∈ AL := AL_in (T7 (List.mem_of_getElem? (i := 227) rfl)) rfl
theorem YX9_restore : YL mX9_restore 0 := ⟨rfl, w7_227, w1_10, ⟨by decide, by decide, by decide +kernel⟩, by decide⟩
abbrev mJx00060_init_a7421 : MI := (yJx00060_init_a7421, cJx00060_init_a7421, 2, none, [])
theorem w3_98 : Cond.code yJx00060_init_a7421 cJx00060_init_a7421 2 none ∈ AL := AL_in (T3 (List.mem_of_getElem? (i := 98) rfl)) rfl
theorem w1_21 : Cond.initialized RJx00060 ∈ AL := AL_in (T1 (List.mem_of_getElem? (i := 21) rfl)) rfl
theorem YJx00060_init_a7421 : YL mJx00060_init_a7421 1 := ⟨rfl, w3_98, w1_21, ⟨by decide, by decide, by decide +kernel⟩, by decide⟩
abbrev mJx29ce0_ordinal_8abf5 : MI := (yJx29ce0_ordinal_8abf5, cJx29ce0_ordinal_8abf5, 1, (some .int), [])
theorem w5_154 : Cond.code yJx29ce0_ordinal_8abf5 cJx29ce0_ordinal_8abf5 1 (some .int) ∈ AL := AL_in (T5 (List.mem_of_getElem? (i := 154) rfl)) rfl
theorem w1_7 : Cond.initialized RJx29ce0 ∈ AL := AL_in (T1 (List.mem_of_getElem? (i := 7) rfl)) rfl
theorem YJx29ce0_ordinal_8abf5 : YL mJx29ce0_ordinal_8abf5 0 := ⟨rfl, w5_154, w1_7, ⟨by decide, by decide, by decide +kernel⟩, by decide⟩
abbrev mJ6_bitCount_0f7a4 : MI := (yJ6_bitCount_0f7a4, cJ6_bitCount_0f7a4, 1, (some .int), [])
theorem w3_135 : Cond.code yJ6_bitCount_0f7a4 cJ6_bitCount_0f7a4 1 (some .int) ∈ AL := AL_in (T3 (List.mem_of_getElem? (i := 135) rfl)) rfl
theorem w1_23 : Cond.initialized RJ6 ∈ AL := AL_in (T1 (List.mem_of_getElem? (i := 23) rfl)) rfl
theorem YJ6_bitCount_0f7a4 : YL mJ6_bitCount_0f7a4 1 := ⟨rfl, w3_135, w1_23, ⟨by decide, by decide, by decide +kernel⟩, by decide⟩
abbrev mJ9_max_7cf53 : MI := (yJ9_max_7cf53, cJ9_max_7cf53, 2, (some .int), [])
theorem w5_135 : Cond.code yJ9_max_7cf53 cJ9_max_7cf53 2 (some .int) ∈ AL := AL_in (T5 (List.mem_of_getElem? (i := 135) rfl)) rfl
theorem w1_20 : Cond.initialized RJ9 ∈ AL := AL_in (T1 (List.mem_of_getElem? (i := 20) rfl)) rfl
theorem YJ9_max_7cf53 : YL mJ9_max_7cf53 2 := ⟨rfl, w5_135, w1_20, ⟨by decide, by decide, by decide +kernel⟩, by decide⟩
abbrev mJ9_min_7cf53 : MI := (yJ9_min_7cf53, cJ9_min_7cf53, 2, (some .int), [])
theorem w3_84 : Cond.code yJ9_min_7cf53 cJ9_min_7cf53 2 (some .int) ∈ AL := AL_in (T3 (List.mem_of_getElem? (i := 84) rfl)) rfl
theorem YJ9_min_7cf53 : YL mJ9_min_7cf53 2 := ⟨rfl, w3_84, w1_20, ⟨by decide, by decide, by decide +kernel⟩, by decide⟩
abbrev mJ0_length_8abf5 : MI := (yJ0_length_8abf5, cJ0_length_8abf5, 1, (some .int), [])
theorem w5_76 : Cond.code yJ0_length_8abf5 cJ0_length_8abf5 1 (some .int) ∈ AL := AL_in (T5 (List.mem_of_getElem? (i := 76) rfl)) rfl
theorem w1_22 : Cond.initialized RJ0 ∈ AL := AL_in (T1 (List.mem_of_getElem? (i := 22) rfl)) rfl
theorem YJ0_length_8abf5 : YL mJ0_length_8abf5 0 := ⟨rfl, w5_76, w1_22, ⟨by decide, by decide, by decide +kernel⟩, by decide⟩
abbrev mJ0_charAt_5068e : MI := (yJ0_charAt_5068e, cJ0_charAt_5068e, 2, (some .char), [])
theorem w5_86 : Cond.code yJ0_charAt_5068e cJ0_charAt_5068e 2 (some .char) ∈ AL := AL_in (T5 (List.mem_of_getElem? (i := 86) rfl)) rfl
theorem YJ0_charAt_5068e : YL mJ0_charAt_5068e 1 := ⟨rfl, w5_86, w1_22, ⟨by decide, by decide, by decide +kernel⟩, by decide⟩
abbrev mJ0_coder_7d493 : MI := (yJ0_coder_7d493, cJ0_coder_7d493, 1, (some .byte), [])
theorem w5_80 : Cond.code yJ0_coder_7d493 cJ0_coder_7d493 1 (some .byte) ∈ AL := AL_in (T5 (List.mem_of_getElem? (i := 80) rfl)) rfl
theorem YJ0_coder_7d493 : YL mJ0_coder_7d493 0 := ⟨rfl, w5_80, w1_22, ⟨by decide, by decide, by decide +kernel⟩, by decide⟩
abbrev mJ0_isLatin1_aae02 : MI := (yJ0_isLatin1_aae02, cJ0_isLatin1_aae02, 1, (some .boolean), [])
theorem w5_90 : Cond.code yJ0_isLatin1_aae02 cJ0_isLatin1_aae02 1 (some .boolean) ∈ AL := AL_in (T5 (List.mem_of_getElem? (i := 90) rfl)) rfl
theorem YJ0_isLatin1_aae02 : YL mJ0_isLatin1_aae02 0 := ⟨rfl, w5_90, w1_22, ⟨by decide, by decide, by decide +kernel⟩, by decide⟩
abbrev mJ0_checkIndex_df160 : MI := (yJ0_checkIndex_df160, cJ0_checkIndex_df160, 2, none, [])
theorem w5_96 : Cond.code yJ0_checkIndex_df160 cJ0_checkIndex_df160 2 none ∈ AL := AL_in (T5 (List.mem_of_getElem? (i := 96) rfl)) rfl
theorem YJ0_checkIndex_df160 : YL mJ0_checkIndex_df160 2 := ⟨rfl, w5_96, w1_22, ⟨by decide, by decide, by decide +kernel⟩, by decide⟩
abbrev mJ1_charAt_3b067 : MI := (yJ1_charAt_3b067, cJ1_charAt_3b067, 2, (some .char), [])
theorem w5_93 : Cond.code yJ1_charAt_3b067 cJ1_charAt_3b067 2 (some .char) ∈ AL := AL_in (T5 (List.mem_of_getElem? (i := 93) rfl)) rfl
theorem w1_25 : Cond.initialized RJ1 ∈ AL := AL_in (T1 (List.mem_of_getElem? (i := 25) rfl)) rfl
theorem YJ1_charAt_3b067 : YL mJ1_charAt_3b067 2 := ⟨rfl, w5_93, w1_25, ⟨by decide, by decide, by decide +kernel⟩, by decide⟩
abbrev mJ2_getChar_3b067 : MI := (yJ2_getChar_3b067, cJ2_getChar_3b067, 2, (some .char), [])
theorem w5_114 : Cond.code yJ2_getChar_3b067 cJ2_getChar_3b067 2 (some .char) ∈ AL := AL_in (T5 (List.mem_of_getElem? (i := 114) rfl)) rfl
theorem w1_27 : Cond.initialized RJ2 ∈ AL := AL_in (T1 (List.mem_of_getElem? (i := 27) rfl)) rfl
theorem YJ2_getChar_3b067 : YL mJ2_getChar_3b067 2 := ⟨rfl, w5_114, w1_27, ⟨by decide, by decide, by decide +kernel⟩, by decide⟩
abbrev mJ2_length_9d52b : MI := (yJ2_length_9d52b, cJ2_length_9d52b, 1, (some .int), [])
theorem w5_110 : Cond.code yJ2_length_9d52b cJ2_length_9d52b 1 (some .int) ∈ AL := AL_in (T5 (List.mem_of_getElem? (i := 110) rfl)) rfl
theorem YJ2_length_9d52b : YL mJ2_length_9d52b 1 := ⟨rfl, w5_110, w1_27, ⟨by decide, by decide, by decide +kernel⟩, by decide⟩
abbrev mJ2_charAt_3b067 : MI := (yJ2_charAt_3b067, cJ2_charAt_3b067, 2, (some .char), [])
theorem w5_104 : Cond.code yJ2_charAt_3b067 cJ2_charAt_3b067 2 (some .char) ∈ AL := AL_in (T5 (List.mem_of_getElem? (i := 104) rfl)) rfl
theorem YJ2_charAt_3b067 : YL mJ2_charAt_3b067 2 := ⟨rfl, w5_104, w1_27, ⟨by decide, by decide, by decide +kernel⟩, by decide⟩
abbrev mJ2_checkIndex_2214a : MI := (yJ2_checkIndex_2214a, cJ2_checkIndex_2214a, 2, none, [])
theorem w5_107 : Cond.code yJ2_checkIndex_2214a cJ2_checkIndex_2214a 2 none ∈ AL := AL_in (T5 (List.mem_of_getElem? (i := 107) rfl)) rfl
theorem YJ2_checkIndex_2214a : YL mJ2_checkIndex_2214a 2 := ⟨rfl, w5_107, w1_27, ⟨by decide, by decide, by decide +kernel⟩, by decide⟩
abbrev mJ3_checkIndex_8e157 : MI := (yJ3_checkIndex_8e157, cJ3_checkIndex_8e157, 3, (some .int), [])
theorem w5_101 : Cond.code yJ3_checkIndex_8e157 cJ3_checkIndex_8e157 3 (some .int) ∈ AL := AL_in (T5 (List.mem_of_getElem? (i := 101) rfl)) rfl
theorem w1_26 : Cond.initialized RJ3 ∈ AL := AL_in (T1 (List.mem_of_getElem? (i := 26) rfl)) rfl
theorem YJ3_checkIndex_8e157 : YL mJ3_checkIndex_8e157 3 := ⟨rfl, w5_101, w1_26, ⟨by decide, by decide, by decide +kernel⟩, by decide⟩
abbrev mL_addBlock : MI := (yL_addBlock, cL_addBlock, 4, (some .int), [(0, 9, 12, 13), (0, 9, 15, 15)])
theorem w2_162 : Cond.codeWith yL_addBlock cL_addBlock 4 (some .int) [(0, 9, 12, 13), (0, 9, 15, 15)] ∈ AL := AL_in (T2 (List.mem_of_getElem? (i := 162) rfl)) rfl
theorem w1_0 : Cond.initialized RL ∈ AL := AL_in (T1 (List.mem_of_getElem? (i := 0) rfl)) rfl
theorem YL_addBlock : headC mL_addBlock ∈ AL ∧ Cond.initialized mL_addBlock.1.cls ∈ AL ∧ (mL_addBlock.1.cls ≠ "java/lang/invoke/MethodHandle" ∧ mL_addBlock.1.cls ≠ "java/lang/invoke/VarHandle" ∧ (parseMethodDescriptor mL_addBlock.1.desc).map (fun d => d.parameters.length) = some 3) ∧ mL_addBlock.2.2.1 ≤ 40 := ⟨w2_162, w1_0, ⟨by decide, by decide, by decide +kernel⟩, by decide⟩
abbrev mL_addCushion : MI := (yL_addCushion, cL_addCushion, 4, (some .int), [(0, 9, 12, 13), (0, 9, 15, 15)])
theorem w3_87 : Cond.codeWith yL_addCushion cL_addCushion 4 (some .int) [(0, 9, 12, 13), (0, 9, 15, 15)] ∈ AL := AL_in (T3 (List.mem_of_getElem? (i := 87) rfl)) rfl
theorem YL_addCushion : headC mL_addCushion ∈ AL ∧ Cond.initialized mL_addCushion.1.cls ∈ AL ∧ (mL_addCushion.1.cls ≠ "java/lang/invoke/MethodHandle" ∧ mL_addCushion.1.cls ≠ "java/lang/invoke/VarHandle" ∧ (parseMethodDescriptor mL_addCushion.1.desc).map (fun d => d.parameters.length) = some 3) ∧ mL_addCushion.2.2.1 ≤ 40 := ⟨w3_87, w1_0, ⟨by decide, by decide, by decide +kernel⟩, by decide⟩
abbrev mL_link : MI := (yL_link, cL_link, 5, (some .int), [(0, 10, 13, 24), (0, 10, 17, 13), (0, 10, 21, 15)])
theorem w3_94 : Cond.codeWith yL_link cL_link 5 (some .int) [(0, 10, 13, 24), (0, 10, 17, 13), (0, 10, 21, 15)] ∈ AL := AL_in (T3 (List.mem_of_getElem? (i := 94) rfl)) rfl
theorem YL_link : headC mL_link ∈ AL ∧ Cond.initialized mL_link.1.cls ∈ AL ∧ (mL_link.1.cls ≠ "java/lang/invoke/MethodHandle" ∧ mL_link.1.cls ≠ "java/lang/invoke/VarHandle" ∧ (parseMethodDescriptor mL_link.1.desc).map (fun d => d.parameters.length) = some 4) ∧ mL_link.2.2.1 ≤ 40 := ⟨w3_94, w1_0, ⟨by decide, by decide, by decide +kernel⟩, by decide⟩
abbrev mL_unlink : MI := (yL_unlink, cL_unlink, 5, (some .int), [(0, 10, 13, 24), (0, 10, 17, 29)])
theorem w3_141 : Cond.codeWith yL_unlink cL_unlink 5 (some .int) [(0, 10, 13, 24), (0, 10, 17, 29)] ∈ AL := AL_in (T3 (List.mem_of_getElem? (i := 141) rfl)) rfl
theorem YL_unlink : headC mL_unlink ∈ AL ∧ Cond.initialized mL_unlink.1.cls ∈ AL ∧ (mL_unlink.1.cls ≠ "java/lang/invoke/MethodHandle" ∧ mL_unlink.1.cls ≠ "java/lang/invoke/VarHandle" ∧ (parseMethodDescriptor mL_unlink.1.desc).map (fun d => d.parameters.length) = some 4) ∧ mL_unlink.2.2.1 ≤ 40 := ⟨w3_141, w1_0, ⟨by decide, by decide, by decide +kernel⟩, by decide⟩
abbrev mL_putCat : MI := (yL_putCat, cL_putCat, 4, (some .int), [(0, 9, 12, 24), (0, 9, 15, 15), (0, 9, 18, 34)])
theorem w3_153 : Cond.codeWith yL_putCat cL_putCat 4 (some .int) [(0, 9, 12, 24), (0, 9, 15, 15), (0, 9, 18, 34)] ∈ AL := AL_in (T3 (List.mem_of_getElem? (i := 153) rfl)) rfl
theorem YL_putCat : headC mL_putCat ∈ AL ∧ Cond.initialized mL_putCat.1.cls ∈ AL ∧ (mL_putCat.1.cls ≠ "java/lang/invoke/MethodHandle" ∧ mL_putCat.1.cls ≠ "java/lang/invoke/VarHandle" ∧ (parseMethodDescriptor mL_putCat.1.desc).map (fun d => d.parameters.length) = some 3) ∧ mL_putCat.2.2.1 ≤ 40 := ⟨w3_153, w1_0, ⟨by decide, by decide, by decide +kernel⟩, by decide⟩
abbrev mL_removeCat : MI := (yL_removeCat, cL_removeCat, 4, (some .int), [(0, 9, 12, 24), (0, 9, 15, 29)])
theorem w3_165 : Cond.codeWith yL_removeCat cL_removeCat 4 (some .int) [(0, 9, 12, 24), (0, 9, 15, 29)] ∈ AL := AL_in (T3 (List.mem_of_getElem? (i := 165) rfl)) rfl
theorem YL_removeCat : headC mL_removeCat ∈ AL ∧ Cond.initialized mL_removeCat.1.cls ∈ AL ∧ (mL_removeCat.1.cls ≠ "java/lang/invoke/MethodHandle" ∧ mL_removeCat.1.cls ≠ "java/lang/invoke/VarHandle" ∧ (parseMethodDescriptor mL_removeCat.1.desc).map (fun d => d.parameters.length) = some 3) ∧ mL_removeCat.2.2.1 ≤ 40 := ⟨w3_165, w1_0, ⟨by decide, by decide, by decide +kernel⟩, by decide⟩
abbrev mL_length : MI := (yL_length, cL_length, 4, (some .int), [(0, 9, 12, 24)])
theorem w3_176 : Cond.codeWith yL_length cL_length 4 (some .int) [(0, 9, 12, 24)] ∈ AL := AL_in (T3 (List.mem_of_getElem? (i := 176) rfl)) rfl
theorem YL_length : headC mL_length ∈ AL ∧ Cond.initialized mL_length.1.cls ∈ AL ∧ (mL_length.1.cls ≠ "java/lang/invoke/MethodHandle" ∧ mL_length.1.cls ≠ "java/lang/invoke/VarHandle" ∧ (parseMethodDescriptor mL_length.1.desc).map (fun d => d.parameters.length) = some 3) ∧ mL_length.2.2.1 ≤ 40 := ⟨w3_176, w1_0, ⟨by decide, by decide, by decide +kernel⟩, by decide⟩
abbrev mL_isCushion : MI := (yL_isCushion, cL_isCushion, 4, (some .int), [(0, 16, 19, 24)])
theorem w3_189 : Cond.codeWith yL_isCushion cL_isCushion 4 (some .int) [(0, 16, 19, 24)] ∈ AL := AL_in (T3 (List.mem_of_getElem? (i := 189) rfl)) rfl
theorem YL_isCushion : headC mL_isCushion ∈ AL ∧ Cond.initialized mL_isCushion.1.cls ∈ AL ∧ (mL_isCushion.1.cls ≠ "java/lang/invoke/MethodHandle" ∧ mL_isCushion.1.cls ≠ "java/lang/invoke/VarHandle" ∧ (parseMethodDescriptor mL_isCushion.1.desc).map (fun d => d.parameters.length) = some 3) ∧ mL_isCushion.2.2.1 ≤ 40 := ⟨w3_189, w1_0, ⟨by decide, by decide, by decide +kernel⟩, by decide⟩
abbrev mL_hasCat : MI := (yL_hasCat, cL_hasCat, 4, (some .int), [(0, 16, 19, 24)])
theorem w3_197 : Cond.codeWith yL_hasCat cL_hasCat 4 (some .int) [(0, 16, 19, 24)] ∈ AL := AL_in (T3 (List.mem_of_getElem? (i := 197) rfl)) rfl
theorem YL_hasCat : headC mL_hasCat ∈ AL ∧ Cond.initialized mL_hasCat.1.cls ∈ AL ∧ (mL_hasCat.1.cls ≠ "java/lang/invoke/MethodHandle" ∧ mL_hasCat.1.cls ≠ "java/lang/invoke/VarHandle" ∧ (parseMethodDescriptor mL_hasCat.1.desc).map (fun d => d.parameters.length) = some 3) ∧ mL_hasCat.2.2.1 ≤ 40 := ⟨w3_197, w1_0, ⟨by decide, by decide, by decide +kernel⟩, by decide⟩
abbrev mL_areLinked : MI := (yL_areLinked, cL_areLinked, 5, (some .int), [(0, 17, 20, 24)])
theorem w3_204 : Cond.codeWith yL_areLinked cL_areLinked 5 (some .int) [(0, 17, 20, 24)] ∈ AL := AL_in (T3 (List.mem_of_getElem? (i := 204) rfl)) rfl
theorem YL_areLinked : headC mL_areLinked ∈ AL ∧ Cond.initialized mL_areLinked.1.cls ∈ AL ∧ (mL_areLinked.1.cls ≠ "java/lang/invoke/MethodHandle" ∧ mL_areLinked.1.cls ≠ "java/lang/invoke/VarHandle" ∧ (parseMethodDescriptor mL_areLinked.1.desc).map (fun d => d.parameters.length) = some 4) ∧ mL_areLinked.2.2.1 ≤ 40 := ⟨w3_204, w1_0, ⟨by decide, by decide, by decide +kernel⟩, by decide⟩
abbrev mL_degree : MI := (yL_degree, cL_degree, 4, (some .int), [(0, 9, 12, 24)])
theorem w3_212 : Cond.codeWith yL_degree cL_degree 4 (some .int) [(0, 9, 12, 24)] ∈ AL := AL_in (T3 (List.mem_of_getElem? (i := 212) rfl)) rfl
theorem YL_degree : headC mL_degree ∈ AL ∧ Cond.initialized mL_degree.1.cls ∈ AL ∧ (mL_degree.1.cls ≠ "java/lang/invoke/MethodHandle" ∧ mL_degree.1.cls ≠ "java/lang/invoke/VarHandle" ∧ (parseMethodDescriptor mL_degree.1.desc).map (fun d => d.parameters.length) = some 3) ∧ mL_degree.2.2.1 ≤ 40 := ⟨w3_212, w1_0, ⟨by decide, by decide, by decide +kernel⟩, by decide⟩
abbrev mL_trainIn : MI := (yL_trainIn, cL_trainIn, 4, (some .int), [(0, 9, 12, 24), (0, 9, 15, 29)])
theorem w3_220 : Cond.codeWith yL_trainIn cL_trainIn 4 (some .int) [(0, 9, 12, 24), (0, 9, 15, 29)] ∈ AL := AL_in (T3 (List.mem_of_getElem? (i := 220) rfl)) rfl
theorem YL_trainIn : headC mL_trainIn ∈ AL ∧ Cond.initialized mL_trainIn.1.cls ∈ AL ∧ (mL_trainIn.1.cls ≠ "java/lang/invoke/MethodHandle" ∧ mL_trainIn.1.cls ≠ "java/lang/invoke/VarHandle" ∧ (parseMethodDescriptor mL_trainIn.1.desc).map (fun d => d.parameters.length) = some 3) ∧ mL_trainIn.2.2.1 ≤ 40 := ⟨w3_220, w1_0, ⟨by decide, by decide, by decide +kernel⟩, by decide⟩
abbrev mL_reservedBy : MI := (yL_reservedBy, cL_reservedBy, 4, (some .int), [(0, 9, 12, 24), (0, 9, 15, 29)])
theorem w3_231 : Cond.codeWith yL_reservedBy cL_reservedBy 4 (some .int) [(0, 9, 12, 24), (0, 9, 15, 29)] ∈ AL := AL_in (T3 (List.mem_of_getElem? (i := 231) rfl)) rfl
theorem YL_reservedBy : headC mL_reservedBy ∈ AL ∧ Cond.initialized mL_reservedBy.1.cls ∈ AL ∧ (mL_reservedBy.1.cls ≠ "java/lang/invoke/MethodHandle" ∧ mL_reservedBy.1.cls ≠ "java/lang/invoke/VarHandle" ∧ (parseMethodDescriptor mL_reservedBy.1.desc).map (fun d => d.parameters.length) = some 3) ∧ mL_reservedBy.2.2.1 ≤ 40 := ⟨w3_231, w1_0, ⟨by decide, by decide, by decide +kernel⟩, by decide⟩
abbrev mL_signal : MI := (yL_signal, cL_signal, 4, (some .int), [(0, 9, 12, 24)])
theorem w3_239 : Cond.codeWith yL_signal cL_signal 4 (some .int) [(0, 9, 12, 24)] ∈ AL := AL_in (T3 (List.mem_of_getElem? (i := 239) rfl)) rfl
theorem YL_signal : headC mL_signal ∈ AL ∧ Cond.initialized mL_signal.1.cls ∈ AL ∧ (mL_signal.1.cls ≠ "java/lang/invoke/MethodHandle" ∧ mL_signal.1.cls ≠ "java/lang/invoke/VarHandle" ∧ (parseMethodDescriptor mL_signal.1.desc).map (fun d => d.parameters.length) = some 3) ∧ mL_signal.2.2.1 ≤ 40 := ⟨w3_239, w1_0, ⟨by decide, by decide, by decide +kernel⟩, by decide⟩
abbrev mL_distance : MI := (yL_distance, cL_distance, 5, (some .int), [(0, 10, 13, 24), (0, 10, 17, 29)])
theorem w4_6 : Cond.codeWith yL_distance cL_distance 5 (some .int) [(0, 10, 13, 24), (0, 10, 17, 29)] ∈ AL := AL_in (T4 (List.mem_of_getElem? (i := 6) rfl)) rfl
theorem YL_distance : headC mL_distance ∈ AL ∧ Cond.initialized mL_distance.1.cls ∈ AL ∧ (mL_distance.1.cls ≠ "java/lang/invoke/MethodHandle" ∧ mL_distance.1.cls ≠ "java/lang/invoke/VarHandle" ∧ (parseMethodDescriptor mL_distance.1.desc).map (fun d => d.parameters.length) = some 4) ∧ mL_distance.2.2.1 ≤ 40 := ⟨w4_6, w1_0, ⟨by decide, by decide, by decide +kernel⟩, by decide⟩
abbrev mL_distanceByRounds : MI := (yL_distanceByRounds, cL_distanceByRounds, 5, (some .int), [(0, 10, 13, 24), (0, 10, 17, 29)])
theorem w4_14 : Cond.codeWith yL_distanceByRounds cL_distanceByRounds 5 (some .int) [(0, 10, 13, 24), (0, 10, 17, 29)] ∈ AL := AL_in (T4 (List.mem_of_getElem? (i := 14) rfl)) rfl
theorem YL_distanceByRounds : headC mL_distanceByRounds ∈ AL ∧ Cond.initialized mL_distanceByRounds.1.cls ∈ AL ∧ (mL_distanceByRounds.1.cls ≠ "java/lang/invoke/MethodHandle" ∧ mL_distanceByRounds.1.cls ≠ "java/lang/invoke/VarHandle" ∧ (parseMethodDescriptor mL_distanceByRounds.1.desc).map (fun d => d.parameters.length) = some 4) ∧ mL_distanceByRounds.2.2.1 ≤ 40 := ⟨w4_14, w1_0, ⟨by decide, by decide, by decide +kernel⟩, by decide⟩
abbrev mL_nextBlock : MI := (yL_nextBlock, cL_nextBlock, 4, (some .int), [(0, 9, 12, 24), (0, 9, 15, 29)])
theorem w4_22 : Cond.codeWith yL_nextBlock cL_nextBlock 4 (some .int) [(0, 9, 12, 24), (0, 9, 15, 29)] ∈ AL := AL_in (T4 (List.mem_of_getElem? (i := 22) rfl)) rfl
theorem YL_nextBlock : headC mL_nextBlock ∈ AL ∧ Cond.initialized mL_nextBlock.1.cls ∈ AL ∧ (mL_nextBlock.1.cls ≠ "java/lang/invoke/MethodHandle" ∧ mL_nextBlock.1.cls ≠ "java/lang/invoke/VarHandle" ∧ (parseMethodDescriptor mL_nextBlock.1.desc).map (fun d => d.parameters.length) = some 3) ∧ mL_nextBlock.2.2.1 ≤ 40 := ⟨w4_22, w1_0, ⟨by decide, by decide, by decide +kernel⟩, by decide⟩
abbrev mL_nearestCushion : MI := (yL_nearestCushion, cL_nearestCushion, 4, (some .int), [(0, 9, 12, 24), (0, 9, 15, 29)])
theorem w4_39 : Cond.codeWith yL_nearestCushion cL_nearestCushion 4 (some .int) [(0, 9, 12, 24), (0, 9, 15, 29)] ∈ AL := AL_in (T4 (List.mem_of_getElem? (i := 39) rfl)) rfl
theorem YL_nearestCushion : headC mL_nearestCushion ∈ AL ∧ Cond.initialized mL_nearestCushion.1.cls ∈ AL ∧ (mL_nearestCushion.1.cls ≠ "java/lang/invoke/MethodHandle" ∧ mL_nearestCushion.1.cls ≠ "java/lang/invoke/VarHandle" ∧ (parseMethodDescriptor mL_nearestCushion.1.desc).map (fun d => d.parameters.length) = some 3) ∧ mL_nearestCushion.2.2.1 ≤ 40 := ⟨w4_39, w1_0, ⟨by decide, by decide, by decide +kernel⟩, by decide⟩
abbrev mL_addTrain : MI := (yL_addTrain, cL_addTrain, 5, (some .int), [(0, 10, 13, 24), (0, 10, 17, 13), (0, 10, 21, 15), (0, 10, 25, 34)])
theorem w4_50 : Cond.codeWith yL_addTrain cL_addTrain 5 (some .int) [(0, 10, 13, 24), (0, 10, 17, 13), (0, 10, 21, 15), (0, 10, 25, 34)] ∈ AL := AL_in (T4 (List.mem_of_getElem? (i := 50) rfl)) rfl
theorem YL_addTrain : headC mL_addTrain ∈ AL ∧ Cond.initialized mL_addTrain.1.cls ∈ AL ∧ (mL_addTrain.1.cls ≠ "java/lang/invoke/MethodHandle" ∧ mL_addTrain.1.cls ≠ "java/lang/invoke/VarHandle" ∧ (parseMethodDescriptor mL_addTrain.1.desc).map (fun d => d.parameters.length) = some 4) ∧ mL_addTrain.2.2.1 ≤ 40 := ⟨w4_50, w1_0, ⟨by decide, by decide, by decide +kernel⟩, by decide⟩
abbrev mL_setGoal : MI := (yL_setGoal, cL_setGoal, 5, (some .int), [(0, 10, 13, 24), (0, 10, 17, 13), (0, 10, 21, 34), (0, 10, 25, 29)])
theorem w4_61 : Cond.codeWith yL_setGoal cL_setGoal 5 (some .int) [(0, 10, 13, 24), (0, 10, 17, 13), (0, 10, 21, 34), (0, 10, 25, 29)] ∈ AL := AL_in (T4 (List.mem_of_getElem? (i := 61) rfl)) rfl
theorem YL_setGoal : headC mL_setGoal ∈ AL ∧ Cond.initialized mL_setGoal.1.cls ∈ AL ∧ (mL_setGoal.1.cls ≠ "java/lang/invoke/MethodHandle" ∧ mL_setGoal.1.cls ≠ "java/lang/invoke/VarHandle" ∧ (parseMethodDescriptor mL_setGoal.1.desc).map (fun d => d.parameters.length) = some 4) ∧ mL_setGoal.2.2.1 ≤ 40 := ⟨w4_61, w1_0, ⟨by decide, by decide, by decide +kernel⟩, by decide⟩
abbrev mL_clearGoal : MI := (yL_clearGoal, cL_clearGoal, 4, (some .int), [(0, 9, 12, 24), (0, 9, 15, 29)])
theorem w4_75 : Cond.codeWith yL_clearGoal cL_clearGoal 4 (some .int) [(0, 9, 12, 24), (0, 9, 15, 29)] ∈ AL := AL_in (T4 (List.mem_of_getElem? (i := 75) rfl)) rfl
theorem YL_clearGoal : headC mL_clearGoal ∈ AL ∧ Cond.initialized mL_clearGoal.1.cls ∈ AL ∧ (mL_clearGoal.1.cls ≠ "java/lang/invoke/MethodHandle" ∧ mL_clearGoal.1.cls ≠ "java/lang/invoke/VarHandle" ∧ (parseMethodDescriptor mL_clearGoal.1.desc).map (fun d => d.parameters.length) = some 3) ∧ mL_clearGoal.2.2.1 ≤ 40 := ⟨w4_75, w1_0, ⟨by decide, by decide, by decide +kernel⟩, by decide⟩
abbrev mL_reserve : MI := (yL_reserve, cL_reserve, 5, (some .int), [(0, 10, 13, 24), (0, 10, 17, 13), (0, 10, 21, 15), (0, 10, 25, 34)])
theorem w4_87 : Cond.codeWith yL_reserve cL_reserve 5 (some .int) [(0, 10, 13, 24), (0, 10, 17, 13), (0, 10, 21, 15), (0, 10, 25, 34)] ∈ AL := AL_in (T4 (List.mem_of_getElem? (i := 87) rfl)) rfl
theorem YL_reserve : headC mL_reserve ∈ AL ∧ Cond.initialized mL_reserve.1.cls ∈ AL ∧ (mL_reserve.1.cls ≠ "java/lang/invoke/MethodHandle" ∧ mL_reserve.1.cls ≠ "java/lang/invoke/VarHandle" ∧ (parseMethodDescriptor mL_reserve.1.desc).map (fun d => d.parameters.length) = some 4) ∧ mL_reserve.2.2.1 ≤ 40 := ⟨w4_87, w1_0, ⟨by decide, by decide, by decide +kernel⟩, by decide⟩
abbrev mL_cancelReservation : MI := (yL_cancelReservation, cL_cancelReservation, 4, (some .int), [(0, 9, 12, 24), (0, 9, 15, 29)])
theorem w4_102 : Cond.codeWith yL_cancelReservation cL_cancelReservation 4 (some .int) [(0, 9, 12, 24), (0, 9, 15, 29)] ∈ AL := AL_in (T4 (List.mem_of_getElem? (i := 102) rfl)) rfl
theorem YL_cancelReservation : headC mL_cancelReservation ∈ AL ∧ Cond.initialized mL_cancelReservation.1.cls ∈ AL ∧ (mL_cancelReservation.1.cls ≠ "java/lang/invoke/MethodHandle" ∧ mL_cancelReservation.1.cls ≠ "java/lang/invoke/VarHandle" ∧ (parseMethodDescriptor mL_cancelReservation.1.desc).map (fun d => d.parameters.length) = some 3) ∧ mL_cancelReservation.2.2.1 ≤ 40 := ⟨w4_102, w1_0, ⟨by decide, by decide, by decide +kernel⟩, by decide⟩
abbrev mL_rescue : MI := (yL_rescue, cL_rescue, 4, (some .int), [(0, 9, 12, 24), (0, 9, 15, 15)])
theorem w4_113 : Cond.codeWith yL_rescue cL_rescue 4 (some .int) [(0, 9, 12, 24), (0, 9, 15, 15)] ∈ AL := AL_in (T4 (List.mem_of_getElem? (i := 113) rfl)) rfl
theorem YL_rescue : headC mL_rescue ∈ AL ∧ Cond.initialized mL_rescue.1.cls ∈ AL ∧ (mL_rescue.1.cls ≠ "java/lang/invoke/MethodHandle" ∧ mL_rescue.1.cls ≠ "java/lang/invoke/VarHandle" ∧ (parseMethodDescriptor mL_rescue.1.desc).map (fun d => d.parameters.length) = some 3) ∧ mL_rescue.2.2.1 ≤ 40 := ⟨w4_113, w1_0, ⟨by decide, by decide, by decide +kernel⟩, by decide⟩
abbrev mL_blockOf : MI := (yL_blockOf, cL_blockOf, 4, (some .int), [(0, 9, 12, 24)])
theorem w4_124 : Cond.codeWith yL_blockOf cL_blockOf 4 (some .int) [(0, 9, 12, 24)] ∈ AL := AL_in (T4 (List.mem_of_getElem? (i := 124) rfl)) rfl
theorem YL_blockOf : headC mL_blockOf ∈ AL ∧ Cond.initialized mL_blockOf.1.cls ∈ AL ∧ (mL_blockOf.1.cls ≠ "java/lang/invoke/MethodHandle" ∧ mL_blockOf.1.cls ≠ "java/lang/invoke/VarHandle" ∧ (parseMethodDescriptor mL_blockOf.1.desc).map (fun d => d.parameters.length) = some 3) ∧ mL_blockOf.2.2.1 ≤ 40 := ⟨w4_124, w1_0, ⟨by decide, by decide, by decide +kernel⟩, by decide⟩
abbrev mL_priority : MI := (yL_priority, cL_priority, 4, (some .int), [(0, 9, 12, 24)])
theorem w4_131 : Cond.codeWith yL_priority cL_priority 4 (some .int) [(0, 9, 12, 24)] ∈ AL := AL_in (T4 (List.mem_of_getElem? (i := 131) rfl)) rfl
theorem YL_priority : headC mL_priority ∈ AL ∧ Cond.initialized mL_priority.1.cls ∈ AL ∧ (mL_priority.1.cls ≠ "java/lang/invoke/MethodHandle" ∧ mL_priority.1.cls ≠ "java/lang/invoke/VarHandle" ∧ (parseMethodDescriptor mL_priority.1.desc).map (fun d => d.parameters.length) = some 3) ∧ mL_priority.2.2.1 ≤ 40 := ⟨w4_131, w1_0, ⟨by decide, by decide, by decide +kernel⟩, by decide⟩
abbrev mL_remainingTicks : MI := (yL_remainingTicks, cL_remainingTicks, 4, (some .int), [(0, 9, 12, 24)])
theorem w4_138 : Cond.codeWith yL_remainingTicks cL_remainingTicks 4 (some .int) [(0, 9, 12, 24)] ∈ AL := AL_in (T4 (List.mem_of_getElem? (i := 138) rfl)) rfl
theorem YL_remainingTicks : headC mL_remainingTicks ∈ AL ∧ Cond.initialized mL_remainingTicks.1.cls ∈ AL ∧ (mL_remainingTicks.1.cls ≠ "java/lang/invoke/MethodHandle" ∧ mL_remainingTicks.1.cls ≠ "java/lang/invoke/VarHandle" ∧ (parseMethodDescriptor mL_remainingTicks.1.desc).map (fun d => d.parameters.length) = some 3) ∧ mL_remainingTicks.2.2.1 ≤ 40 := ⟨w4_138, w1_0, ⟨by decide, by decide, by decide +kernel⟩, by decide⟩
abbrev mL_goal : MI := (yL_goal, cL_goal, 4, (some .int), [(0, 9, 12, 24), (0, 9, 15, 29)])
theorem w4_145 : Cond.codeWith yL_goal cL_goal 4 (some .int) [(0, 9, 12, 24), (0, 9, 15, 29)] ∈ AL := AL_in (T4 (List.mem_of_getElem? (i := 145) rfl)) rfl
theorem YL_goal : headC mL_goal ∈ AL ∧ Cond.initialized mL_goal.1.cls ∈ AL ∧ (mL_goal.1.cls ≠ "java/lang/invoke/MethodHandle" ∧ mL_goal.1.cls ≠ "java/lang/invoke/VarHandle" ∧ (parseMethodDescriptor mL_goal.1.desc).map (fun d => d.parameters.length) = some 3) ∧ mL_goal.2.2.1 ≤ 40 := ⟨w4_145, w1_0, ⟨by decide, by decide, by decide +kernel⟩, by decide⟩
abbrev mL_isDerailed : MI := (yL_isDerailed, cL_isDerailed, 4, (some .int), [(0, 16, 19, 24)])
theorem w4_152 : Cond.codeWith yL_isDerailed cL_isDerailed 4 (some .int) [(0, 16, 19, 24)] ∈ AL := AL_in (T4 (List.mem_of_getElem? (i := 152) rfl)) rfl
theorem YL_isDerailed : headC mL_isDerailed ∈ AL ∧ Cond.initialized mL_isDerailed.1.cls ∈ AL ∧ (mL_isDerailed.1.cls ≠ "java/lang/invoke/MethodHandle" ∧ mL_isDerailed.1.cls ≠ "java/lang/invoke/VarHandle" ∧ (parseMethodDescriptor mL_isDerailed.1.desc).map (fun d => d.parameters.length) = some 3) ∧ mL_isDerailed.2.2.1 ≤ 40 := ⟨w4_152, w1_0, ⟨by decide, by decide, by decide +kernel⟩, by decide⟩
abbrev mL_waits : MI := (yL_waits, cL_waits, 4, (some .int), [(0, 9, 12, 24)])
theorem w4_159 : Cond.codeWith yL_waits cL_waits 4 (some .int) [(0, 9, 12, 24)] ∈ AL := AL_in (T4 (List.mem_of_getElem? (i := 159) rfl)) rfl
theorem YL_waits : headC mL_waits ∈ AL ∧ Cond.initialized mL_waits.1.cls ∈ AL ∧ (mL_waits.1.cls ≠ "java/lang/invoke/MethodHandle" ∧ mL_waits.1.cls ≠ "java/lang/invoke/VarHandle" ∧ (parseMethodDescriptor mL_waits.1.desc).map (fun d => d.parameters.length) = some 3) ∧ mL_waits.2.2.1 ≤ 40 := ⟨w4_159, w1_0, ⟨by decide, by decide, by decide +kernel⟩, by decide⟩
abbrev mL_trainByPriority : MI := (yL_trainByPriority, cL_trainByPriority, 4, (some .int), [(0, 9, 12, 29)])
theorem w4_166 : Cond.codeWith yL_trainByPriority cL_trainByPriority 4 (some .int) [(0, 9, 12, 29)] ∈ AL := AL_in (T4 (List.mem_of_getElem? (i := 166) rfl)) rfl
theorem YL_trainByPriority : headC mL_trainByPriority ∈ AL ∧ Cond.initialized mL_trainByPriority.1.cls ∈ AL ∧ (mL_trainByPriority.1.cls ≠ "java/lang/invoke/MethodHandle" ∧ mL_trainByPriority.1.cls ≠ "java/lang/invoke/VarHandle" ∧ (parseMethodDescriptor mL_trainByPriority.1.desc).map (fun d => d.parameters.length) = some 3) ∧ mL_trainByPriority.2.2.1 ≤ 40 := ⟨w4_166, w1_0, ⟨by decide, by decide, by decide +kernel⟩, by decide⟩
abbrev mL_blockedBy : MI := (yL_blockedBy, cL_blockedBy, 4, (some .int), [(0, 9, 12, 24), (0, 9, 15, 29)])
theorem w4_177 : Cond.codeWith yL_blockedBy cL_blockedBy 4 (some .int) [(0, 9, 12, 24), (0, 9, 15, 29)] ∈ AL := AL_in (T4 (List.mem_of_getElem? (i := 177) rfl)) rfl
theorem YL_blockedBy : headC mL_blockedBy ∈ AL ∧ Cond.initialized mL_blockedBy.1.cls ∈ AL ∧ (mL_blockedBy.1.cls ≠ "java/lang/invoke/MethodHandle" ∧ mL_blockedBy.1.cls ≠ "java/lang/invoke/VarHandle" ∧ (parseMethodDescriptor mL_blockedBy.1.desc).map (fun d => d.parameters.length) = some 3) ∧ mL_blockedBy.2.2.1 ≤ 40 := ⟨w4_177, w1_0, ⟨by decide, by decide, by decide +kernel⟩, by decide⟩
abbrev mL_passTicks : MI := (yL_passTicks, cL_passTicks, 4, (some .int), [(0, 9, 12, 13)])
theorem w4_185 : Cond.codeWith yL_passTicks cL_passTicks 4 (some .int) [(0, 9, 12, 13)] ∈ AL := AL_in (T4 (List.mem_of_getElem? (i := 185) rfl)) rfl
theorem YL_passTicks : headC mL_passTicks ∈ AL ∧ Cond.initialized mL_passTicks.1.cls ∈ AL ∧ (mL_passTicks.1.cls ≠ "java/lang/invoke/MethodHandle" ∧ mL_passTicks.1.cls ≠ "java/lang/invoke/VarHandle" ∧ (parseMethodDescriptor mL_passTicks.1.desc).map (fun d => d.parameters.length) = some 3) ∧ mL_passTicks.2.2.1 ≤ 40 := ⟨w4_185, w1_0, ⟨by decide, by decide, by decide +kernel⟩, by decide⟩
abbrev mL_ticksUntilArrival : MI := (yL_ticksUntilArrival, cL_ticksUntilArrival, 4, (some .int), [(0, 9, 12, 24), (0, 9, 15, 29)])
theorem w4_209 : Cond.codeWith yL_ticksUntilArrival cL_ticksUntilArrival 4 (some .int) [(0, 9, 12, 24), (0, 9, 15, 29)] ∈ AL := AL_in (T4 (List.mem_of_getElem? (i := 209) rfl)) rfl
theorem YL_ticksUntilArrival : headC mL_ticksUntilArrival ∈ AL ∧ Cond.initialized mL_ticksUntilArrival.1.cls ∈ AL ∧ (mL_ticksUntilArrival.1.cls ≠ "java/lang/invoke/MethodHandle" ∧ mL_ticksUntilArrival.1.cls ≠ "java/lang/invoke/VarHandle" ∧ (parseMethodDescriptor mL_ticksUntilArrival.1.desc).map (fun d => d.parameters.length) = some 3) ∧ mL_ticksUntilArrival.2.2.1 ≤ 40 := ⟨w4_209, w1_0, ⟨by decide, by decide, by decide +kernel⟩, by decide⟩
abbrev mL_meanWaits : MI := (yL_meanWaits, cL_meanWaits, 3, (some .int), [(0, 7, 10, 130)])
theorem w4_222 : Cond.codeWith yL_meanWaits cL_meanWaits 3 (some .int) [(0, 7, 10, 130)] ∈ AL := AL_in (T4 (List.mem_of_getElem? (i := 222) rfl)) rfl
theorem YL_meanWaits : headC mL_meanWaits ∈ AL ∧ Cond.initialized mL_meanWaits.1.cls ∈ AL ∧ (mL_meanWaits.1.cls ≠ "java/lang/invoke/MethodHandle" ∧ mL_meanWaits.1.cls ≠ "java/lang/invoke/VarHandle" ∧ (parseMethodDescriptor mL_meanWaits.1.desc).map (fun d => d.parameters.length) = some 2) ∧ mL_meanWaits.2.2.1 ≤ 40 := ⟨w4_222, w1_0, ⟨by decide, by decide, by decide +kernel⟩, by decide⟩
abbrev mL_occupiedFraction : MI := (yL_occupiedFraction, cL_occupiedFraction, 3, (some .int), [(0, 8, 11, 130)])
theorem w5_10 : Cond.codeWith yL_occupiedFraction cL_occupiedFraction 3 (some .int) [(0, 8, 11, 130)] ∈ AL := AL_in (T5 (List.mem_of_getElem? (i := 10) rfl)) rfl
theorem YL_occupiedFraction : headC mL_occupiedFraction ∈ AL ∧ Cond.initialized mL_occupiedFraction.1.cls ∈ AL ∧ (mL_occupiedFraction.1.cls ≠ "java/lang/invoke/MethodHandle" ∧ mL_occupiedFraction.1.cls ≠ "java/lang/invoke/VarHandle" ∧ (parseMethodDescriptor mL_occupiedFraction.1.desc).map (fun d => d.parameters.length) = some 2) ∧ mL_occupiedFraction.2.2.1 ≤ 40 := ⟨w5_10, w1_0, ⟨by decide, by decide, by decide +kernel⟩, by decide⟩
abbrev mL_writeTrain : MI := (yL_writeTrain, cL_writeTrain, 4, (some .int), [(0, 9, 12, 24)])
theorem w5_18 : Cond.codeWith yL_writeTrain cL_writeTrain 4 (some .int) [(0, 9, 12, 24)] ∈ AL := AL_in (T5 (List.mem_of_getElem? (i := 18) rfl)) rfl
theorem YL_writeTrain : headC mL_writeTrain ∈ AL ∧ Cond.initialized mL_writeTrain.1.cls ∈ AL ∧ (mL_writeTrain.1.cls ≠ "java/lang/invoke/MethodHandle" ∧ mL_writeTrain.1.cls ≠ "java/lang/invoke/VarHandle" ∧ (parseMethodDescriptor mL_writeTrain.1.desc).map (fun d => d.parameters.length) = some 3) ∧ mL_writeTrain.2.2.1 ≤ 40 := ⟨w5_18, w1_0, ⟨by decide, by decide, by decide +kernel⟩, by decide⟩
abbrev mL_outputCharacter : MI := (yL_outputCharacter, cL_outputCharacter, 4, (some .int), [(0, 9, 12, 24)])
theorem w5_30 : Cond.codeWith yL_outputCharacter cL_outputCharacter 4 (some .int) [(0, 9, 12, 24)] ∈ AL := AL_in (T5 (List.mem_of_getElem? (i := 30) rfl)) rfl
theorem YL_outputCharacter : headC mL_outputCharacter ∈ AL ∧ Cond.initialized mL_outputCharacter.1.cls ∈ AL ∧ (mL_outputCharacter.1.cls ≠ "java/lang/invoke/MethodHandle" ∧ mL_outputCharacter.1.cls ≠ "java/lang/invoke/VarHandle" ∧ (parseMethodDescriptor mL_outputCharacter.1.desc).map (fun d => d.parameters.length) = some 3) ∧ mL_outputCharacter.2.2.1 ≤ 40 := ⟨w5_30, w1_0, ⟨by decide, by decide, by decide +kernel⟩, by decide⟩
abbrev mL_feed : MI := (yL_feed, cL_feed, 4, (some .int), [(0, 9, 12, 15)])
theorem w5_38 : Cond.codeWith yL_feed cL_feed 4 (some .int) [(0, 9, 12, 15)] ∈ AL := AL_in (T5 (List.mem_of_getElem? (i := 38) rfl)) rfl
theorem YL_feed : headC mL_feed ∈ AL ∧ Cond.initialized mL_feed.1.cls ∈ AL ∧ (mL_feed.1.cls ≠ "java/lang/invoke/MethodHandle" ∧ mL_feed.1.cls ≠ "java/lang/invoke/VarHandle" ∧ (parseMethodDescriptor mL_feed.1.desc).map (fun d => d.parameters.length) = some 3) ∧ mL_feed.2.2.1 ≤ 40 := ⟨w5_38, w1_0, ⟨by decide, by decide, by decide +kernel⟩, by decide⟩
abbrev mL_execute : MI := (yL_execute, cL_execute, 3, (some .int), [(0, 8, 11, 13), (0, 8, 14, 34)])
theorem w5_50 : Cond.codeWith yL_execute cL_execute 3 (some .int) [(0, 8, 11, 13), (0, 8, 14, 34)] ∈ AL := AL_in (T5 (List.mem_of_getElem? (i := 50) rfl)) rfl
theorem YL_execute : headC mL_execute ∈ AL ∧ Cond.initialized mL_execute.1.cls ∈ AL ∧ (mL_execute.1.cls ≠ "java/lang/invoke/MethodHandle" ∧ mL_execute.1.cls ≠ "java/lang/invoke/VarHandle" ∧ (parseMethodDescriptor mL_execute.1.desc).map (fun d => d.parameters.length) = some 2) ∧ mL_execute.2.2.1 ≤ 40 := ⟨w5_50, w1_0, ⟨by decide, by decide, by decide +kernel⟩, by decide⟩
abbrev mL_errorPosition : MI := (yL_errorPosition, cL_errorPosition, 3, (some .int), [(0, 8, 11, 29)])
theorem w5_162 : Cond.codeWith yL_errorPosition cL_errorPosition 3 (some .int) [(0, 8, 11, 29)] ∈ AL := AL_in (T5 (List.mem_of_getElem? (i := 162) rfl)) rfl
theorem YL_errorPosition : headC mL_errorPosition ∈ AL ∧ Cond.initialized mL_errorPosition.1.cls ∈ AL ∧ (mL_errorPosition.1.cls ≠ "java/lang/invoke/MethodHandle" ∧ mL_errorPosition.1.cls ≠ "java/lang/invoke/VarHandle" ∧ (parseMethodDescriptor mL_errorPosition.1.desc).map (fun d => d.parameters.length) = some 2) ∧ mL_errorPosition.2.2.1 ≤ 40 := ⟨w5_162, w1_0, ⟨by decide, by decide, by decide +kernel⟩, by decide⟩
abbrev mL_failedCommand : MI := (yL_failedCommand, cL_failedCommand, 3, (some .int), [(0, 8, 11, 29)])
theorem w5_169 : Cond.codeWith yL_failedCommand cL_failedCommand 3 (some .int) [(0, 8, 11, 29)] ∈ AL := AL_in (T5 (List.mem_of_getElem? (i := 169) rfl)) rfl
theorem YL_failedCommand : headC mL_failedCommand ∈ AL ∧ Cond.initialized mL_failedCommand.1.cls ∈ AL ∧ (mL_failedCommand.1.cls ≠ "java/lang/invoke/MethodHandle" ∧ mL_failedCommand.1.cls ≠ "java/lang/invoke/VarHandle" ∧ (parseMethodDescriptor mL_failedCommand.1.desc).map (fun d => d.parameters.length) = some 2) ∧ mL_failedCommand.2.2.1 ≤ 40 := ⟨w5_169, w1_0, ⟨by decide, by decide, by decide +kernel⟩, by decide⟩
abbrev mL_undo : MI := (yL_undo, cL_undo, 3, (some .int), [(0, 8, 11, 15)])
theorem w5_176 : Cond.codeWith yL_undo cL_undo 3 (some .int) [(0, 8, 11, 15)] ∈ AL := AL_in (T5 (List.mem_of_getElem? (i := 176) rfl)) rfl
theorem YL_undo : headC mL_undo ∈ AL ∧ Cond.initialized mL_undo.1.cls ∈ AL ∧ (mL_undo.1.cls ≠ "java/lang/invoke/MethodHandle" ∧ mL_undo.1.cls ≠ "java/lang/invoke/VarHandle" ∧ (parseMethodDescriptor mL_undo.1.desc).map (fun d => d.parameters.length) = some 2) ∧ mL_undo.2.2.1 ≤ 40 := ⟨w5_176, w1_0, ⟨by decide, by decide, by decide +kernel⟩, by decide⟩
abbrev mL_restore : MI := (yL_restore, cL_restore, 3, (some .int), [(0, 8, 11, 15)])
theorem w5_188 : Cond.codeWith yL_restore cL_restore 3 (some .int) [(0, 8, 11, 15)] ∈ AL := AL_in (T5 (List.mem_of_getElem? (i := 188) rfl)) rfl
theorem YL_restore : headC mL_restore ∈ AL ∧ Cond.initialized mL_restore.1.cls ∈ AL ∧ (mL_restore.1.cls ≠ "java/lang/invoke/MethodHandle" ∧ mL_restore.1.cls ≠ "java/lang/invoke/VarHandle" ∧ (parseMethodDescriptor mL_restore.1.desc).map (fun d => d.parameters.length) = some 2) ∧ mL_restore.2.2.1 ≤ 40 := ⟨w5_188, w1_0, ⟨by decide, by decide, by decide +kernel⟩, by decide⟩
theorem w1_31 : Cond.methodLink RL 162 yX8_init ∈ AL := AL_in (T1 (List.mem_of_getElem? (i := 31) rfl)) rfl
theorem w1_32 : Cond.instanceMethod yX8_init ∈ AL := AL_in (T1 (List.mem_of_getElem? (i := 32) rfl)) rfl
theorem kL_162 : Cond.methodLink RL 162 yX8_init ∈ AL ∧ Cond.instanceMethod yX8_init ∈ AL := ⟨w1_31, w1_32⟩
theorem w1_34 : Cond.methodLink RX8 3 Lib.objectInit ∈ AL := AL_in (T1 (List.mem_of_getElem? (i := 34) rfl)) rfl
theorem w1_35 : Cond.instanceMethod Lib.objectInit ∈ AL := AL_in (T1 (List.mem_of_getElem? (i := 35) rfl)) rfl
theorem w1_36 : Cond.code Lib.objectInit ⟨#[0xb1]⟩ 1 none ∈ AL := AL_in (T1 (List.mem_of_getElem? (i := 36) rfl)) rfl
theorem kX8_3 : Cond.methodLink RX8 3 Lib.objectInit ∈ AL ∧ Cond.instanceMethod Lib.objectInit ∈ AL ∧ Cond.code Lib.objectInit ⟨#[0xb1]⟩ 1 none ∈ AL := ⟨w1_34, w1_35, w1_36⟩
theorem w1_42 : Cond.methodLink RX4 3 Lib.objectInit ∈ AL := AL_in (T1 (List.mem_of_getElem? (i := 42) rfl)) rfl
theorem kX4_3 : Cond.methodLink RX4 3 Lib.objectInit ∈ AL ∧ Cond.instanceMethod Lib.objectInit ∈ AL ∧ Cond.code Lib.objectInit ⟨#[0xb1]⟩ 1 none ∈ AL := ⟨w1_42, w1_35, w1_36⟩
theorem w1_121 : Cond.methodLink RX8 24 yX3_init ∈ AL := AL_in (T1 (List.mem_of_getElem? (i := 121) rfl)) rfl
theorem w1_122 : Cond.instanceMethod yX3_init ∈ AL := AL_in (T1 (List.mem_of_getElem? (i := 122) rfl)) rfl
theorem kX8_24 : Cond.methodLink RX8 24 yX3_init ∈ AL ∧ Cond.instanceMethod yX3_init ∈ AL := ⟨w1_121, w1_122⟩
theorem w1_124 : Cond.methodLink RX3 3 Lib.objectInit ∈ AL := AL_in (T1 (List.mem_of_getElem? (i := 124) rfl)) rfl
theorem kX3_3 : Cond.methodLink RX3 3 Lib.objectInit ∈ AL ∧ Cond.instanceMethod Lib.objectInit ∈ AL ∧ Cond.code Lib.objectInit ⟨#[0xb1]⟩ 1 none ∈ AL := ⟨w1_124, w1_35, w1_36⟩
theorem w1_144 : Cond.methodLink RX6 3 Lib.objectInit ∈ AL := AL_in (T1 (List.mem_of_getElem? (i := 144) rfl)) rfl
theorem kX6_3 : Cond.methodLink RX6 3 Lib.objectInit ∈ AL ∧ Cond.instanceMethod Lib.objectInit ∈ AL ∧ Cond.code Lib.objectInit ⟨#[0xb1]⟩ 1 none ∈ AL := ⟨w1_144, w1_35, w1_36⟩
theorem w1_163 : Cond.methodLink RX7 3 Lib.objectInit ∈ AL := AL_in (T1 (List.mem_of_getElem? (i := 163) rfl)) rfl
theorem kX7_3 : Cond.methodLink RX7 3 Lib.objectInit ∈ AL ∧ Cond.instanceMethod Lib.objectInit ∈ AL ∧ Cond.code Lib.objectInit ⟨#[0xb1]⟩ 1 none ∈ AL := ⟨w1_163, w1_35, w1_36⟩
theorem w1_181 : Cond.methodLink RX2 3 Lib.objectInit ∈ AL := AL_in (T1 (List.mem_of_getElem? (i := 181) rfl)) rfl
theorem kX2_3 : Cond.methodLink RX2 3 Lib.objectInit ∈ AL ∧ Cond.instanceMethod Lib.objectInit ∈ AL ∧ Cond.code Lib.objectInit ⟨#[0xb1]⟩ 1 none ∈ AL := ⟨w1_181, w1_35, w1_36⟩
theorem w1_216 : Cond.methodLink RX5 3 Lib.objectInit ∈ AL := AL_in (T1 (List.mem_of_getElem? (i := 216) rfl)) rfl
theorem kX5_3 : Cond.methodLink RX5 3 Lib.objectInit ∈ AL ∧ Cond.instanceMethod Lib.objectInit ∈ AL ∧ Cond.code Lib.objectInit ⟨#[0xb1]⟩ 1 none ∈ AL := ⟨w1_216, w1_35, w1_36⟩
theorem w2_20 : Cond.methodLink RL 191 yX8_blockCount ∈ AL := AL_in (T2 (List.mem_of_getElem? (i := 20) rfl)) rfl
theorem w2_21 : Cond.instanceMethod yX8_blockCount ∈ AL := AL_in (T2 (List.mem_of_getElem? (i := 21) rfl)) rfl
theorem w2_22 : Cond.selects RX8 yX8_blockCount yX8_blockCount ∈ AL := AL_in (T2 (List.mem_of_getElem? (i := 22) rfl)) rfl
theorem kL_191 : Cond.methodLink RL 191 yX8_blockCount ∈ AL ∧ Cond.instanceMethod yX8_blockCount ∈ AL ∧ Cond.selects mX8_blockCount.1.cls yX8_blockCount yX8_blockCount ∈ AL := ⟨w2_20, w2_21, w2_22⟩
theorem w2_24 : Cond.methodLink RL 228 yX8_partCount ∈ AL := AL_in (T2 (List.mem_of_getElem? (i := 24) rfl)) rfl
theorem w2_25 : Cond.instanceMethod yX8_partCount ∈ AL := AL_in (T2 (List.mem_of_getElem? (i := 25) rfl)) rfl
theorem w2_26 : Cond.selects RX8 yX8_partCount yX8_partCount ∈ AL := AL_in (T2 (List.mem_of_getElem? (i := 26) rfl)) rfl
theorem kL_228 : Cond.methodLink RL 228 yX8_partCount ∈ AL ∧ Cond.instanceMethod yX8_partCount ∈ AL ∧ Cond.selects mX8_partCount.1.cls yX8_partCount yX8_partCount ∈ AL := ⟨w2_24, w2_25, w2_26⟩
theorem w2_28 : Cond.methodLink RX8 158 yX6_partsByWalks ∈ AL := AL_in (T2 (List.mem_of_getElem? (i := 28) rfl)) rfl
theorem w2_29 : Cond.instanceMethod yX6_partsByWalks ∈ AL := AL_in (T2 (List.mem_of_getElem? (i := 29) rfl)) rfl
theorem w2_30 : Cond.selects RX6 yX6_partsByWalks yX6_partsByWalks ∈ AL := AL_in (T2 (List.mem_of_getElem? (i := 30) rfl)) rfl
theorem kX8_158 : Cond.methodLink RX8 158 yX6_partsByWalks ∈ AL ∧ Cond.instanceMethod yX6_partsByWalks ∈ AL ∧ Cond.selects mX6_partsByWalks.1.cls yX6_partsByWalks yX6_partsByWalks ∈ AL := ⟨w2_28, w2_29, w2_30⟩
theorem w2_35 : Cond.methodLink RX6 64 yX6_walk ∈ AL := AL_in (T2 (List.mem_of_getElem? (i := 35) rfl)) rfl
theorem w2_36 : Cond.static yX6_walk ∈ AL := AL_in (T2 (List.mem_of_getElem? (i := 36) rfl)) rfl
theorem kX6_64 : Cond.methodLink RX6 64 yX6_walk ∈ AL ∧ Cond.static yX6_walk ∈ AL := ⟨w2_35, w2_36⟩
theorem w2_38 : Cond.methodLink RX6 45 yX4_isJoined ∈ AL := AL_in (T2 (List.mem_of_getElem? (i := 38) rfl)) rfl
theorem w2_39 : Cond.instanceMethod yX4_isJoined ∈ AL := AL_in (T2 (List.mem_of_getElem? (i := 39) rfl)) rfl
theorem w2_40 : Cond.selects RX4 yX4_isJoined yX4_isJoined ∈ AL := AL_in (T2 (List.mem_of_getElem? (i := 40) rfl)) rfl
theorem kX6_45 : Cond.methodLink RX6 45 yX4_isJoined ∈ AL ∧ Cond.instanceMethod yX4_isJoined ∈ AL ∧ Cond.selects mX4_isJoined.1.cls yX4_isJoined yX4_isJoined ∈ AL := ⟨w2_38, w2_39, w2_40⟩
theorem w2_43 : Cond.methodLink RL 232 yX8_partCountByUnions ∈ AL := AL_in (T2 (List.mem_of_getElem? (i := 43) rfl)) rfl
theorem w2_44 : Cond.instanceMethod yX8_partCountByUnions ∈ AL := AL_in (T2 (List.mem_of_getElem? (i := 44) rfl)) rfl
theorem w2_45 : Cond.selects RX8 yX8_partCountByUnions yX8_partCountByUnions ∈ AL := AL_in (T2 (List.mem_of_getElem? (i := 45) rfl)) rfl
theorem kL_232 : Cond.methodLink RL 232 yX8_partCountByUnions ∈ AL ∧ Cond.instanceMethod yX8_partCountByUnions ∈ AL ∧ Cond.selects mX8_partCountByUnions.1.cls yX8_partCountByUnions yX8_partCountByUnions ∈ AL := ⟨w2_43, w2_44, w2_45⟩
theorem w2_47 : Cond.methodLink RX8 162 yX6_partsByUnions ∈ AL := AL_in (T2 (List.mem_of_getElem? (i := 47) rfl)) rfl
theorem w2_48 : Cond.instanceMethod yX6_partsByUnions ∈ AL := AL_in (T2 (List.mem_of_getElem? (i := 48) rfl)) rfl
theorem w2_49 : Cond.selects RX6 yX6_partsByUnions yX6_partsByUnions ∈ AL := AL_in (T2 (List.mem_of_getElem? (i := 49) rfl)) rfl
theorem kX8_162 : Cond.methodLink RX8 162 yX6_partsByUnions ∈ AL ∧ Cond.instanceMethod yX6_partsByUnions ∈ AL ∧ Cond.selects mX6_partsByUnions.1.cls yX6_partsByUnions yX6_partsByUnions ∈ AL := ⟨w2_47, w2_48, w2_49⟩
theorem w2_51 : Cond.methodLink RX6 68 yX6_unite ∈ AL := AL_in (T2 (List.mem_of_getElem? (i := 51) rfl)) rfl
theorem w2_53 : Cond.instanceMethod yX6_unite ∈ AL := AL_in (T2 (List.mem_of_getElem? (i := 53) rfl)) rfl
theorem w0_0 : Cond.selects RX6 yX6_unite yX6_unite ∈ AL := AL_in (T0 (List.mem_of_getElem? (i := 0) rfl)) rfl
theorem kX6_68 : Cond.methodLink RX6 68 yX6_unite ∈ AL ∧ Cond.instanceMethod yX6_unite ∈ AL ∧ Cond.selects mX6_unite.1.cls yX6_unite yX6_unite ∈ AL := ⟨w2_51, w2_53, w0_0⟩
theorem w2_55 : Cond.methodLink RL 257 yX8_trainCount ∈ AL := AL_in (T2 (List.mem_of_getElem? (i := 55) rfl)) rfl
theorem w2_56 : Cond.instanceMethod yX8_trainCount ∈ AL := AL_in (T2 (List.mem_of_getElem? (i := 56) rfl)) rfl
theorem w2_57 : Cond.selects RX8 yX8_trainCount yX8_trainCount ∈ AL := AL_in (T2 (List.mem_of_getElem? (i := 57) rfl)) rfl
theorem kL_257 : Cond.methodLink RL 257 yX8_trainCount ∈ AL ∧ Cond.instanceMethod yX8_trainCount ∈ AL ∧ Cond.selects mX8_trainCount.1.cls yX8_trainCount yX8_trainCount ∈ AL := ⟨w2_55, w2_56, w2_57⟩
theorem w2_59 : Cond.methodLink RL 285 yX8_deadlocked ∈ AL := AL_in (T2 (List.mem_of_getElem? (i := 59) rfl)) rfl
theorem w2_60 : Cond.instanceMethod yX8_deadlocked ∈ AL := AL_in (T2 (List.mem_of_getElem? (i := 60) rfl)) rfl
theorem w2_61 : Cond.selects RX8 yX8_deadlocked yX8_deadlocked ∈ AL := AL_in (T2 (List.mem_of_getElem? (i := 61) rfl)) rfl
theorem kL_285 : Cond.methodLink RL 285 yX8_deadlocked ∈ AL ∧ Cond.instanceMethod yX8_deadlocked ∈ AL ∧ Cond.selects mX8_deadlocked.1.cls yX8_deadlocked yX8_deadlocked ∈ AL := ⟨w2_59, w2_60, w2_61⟩
theorem w2_63 : Cond.methodLink RX8 214 yX7_stuckByFollowing ∈ AL := AL_in (T2 (List.mem_of_getElem? (i := 63) rfl)) rfl
theorem w2_64 : Cond.instanceMethod yX7_stuckByFollowing ∈ AL := AL_in (T2 (List.mem_of_getElem? (i := 64) rfl)) rfl
theorem w2_65 : Cond.selects RX7 yX7_stuckByFollowing yX7_stuckByFollowing ∈ AL := AL_in (T2 (List.mem_of_getElem? (i := 65) rfl)) rfl
theorem kX8_214 : Cond.methodLink RX8 214 yX7_stuckByFollowing ∈ AL ∧ Cond.instanceMethod yX7_stuckByFollowing ∈ AL ∧ Cond.selects mX7_stuckByFollowing.1.cls yX7_stuckByFollowing yX7_stuckByFollowing ∈ AL := ⟨w2_63, w2_64, w2_65⟩
theorem w2_67 : Cond.methodLink RX7 97 yX7_blockerOf ∈ AL := AL_in (T2 (List.mem_of_getElem? (i := 67) rfl)) rfl
theorem w2_68 : Cond.instanceMethod yX7_blockerOf ∈ AL := AL_in (T2 (List.mem_of_getElem? (i := 68) rfl)) rfl
theorem w2_69 : Cond.selects RX7 yX7_blockerOf yX7_blockerOf ∈ AL := AL_in (T2 (List.mem_of_getElem? (i := 69) rfl)) rfl
theorem kX7_97 : Cond.methodLink RX7 97 yX7_blockerOf ∈ AL ∧ Cond.instanceMethod yX7_blockerOf ∈ AL ∧ Cond.selects mX7_blockerOf.1.cls yX7_blockerOf yX7_blockerOf ∈ AL := ⟨w2_67, w2_68, w2_69⟩
theorem w2_72 : Cond.methodLink RX7 77 yX6_nextFor ∈ AL := AL_in (T2 (List.mem_of_getElem? (i := 72) rfl)) rfl
theorem w2_73 : Cond.instanceMethod yX6_nextFor ∈ AL := AL_in (T2 (List.mem_of_getElem? (i := 73) rfl)) rfl
theorem w2_74 : Cond.selects RX6 yX6_nextFor yX6_nextFor ∈ AL := AL_in (T2 (List.mem_of_getElem? (i := 74) rfl)) rfl
theorem kX7_77 : Cond.methodLink RX7 77 yX6_nextFor ∈ AL ∧ Cond.instanceMethod yX6_nextFor ∈ AL ∧ Cond.selects mX6_nextFor.1.cls yX6_nextFor yX6_nextFor ∈ AL := ⟨w2_72, w2_73, w2_74⟩
theorem w2_76 : Cond.methodLink RX6 48 yX6_measureByNearest ∈ AL := AL_in (T2 (List.mem_of_getElem? (i := 76) rfl)) rfl
theorem w2_77 : Cond.instanceMethod yX6_measureByNearest ∈ AL := AL_in (T2 (List.mem_of_getElem? (i := 77) rfl)) rfl
theorem w2_78 : Cond.selects RX6 yX6_measureByNearest yX6_measureByNearest ∈ AL := AL_in (T2 (List.mem_of_getElem? (i := 78) rfl)) rfl
theorem kX6_48 : Cond.methodLink RX6 48 yX6_measureByNearest ∈ AL ∧ Cond.instanceMethod yX6_measureByNearest ∈ AL ∧ Cond.selects mX6_measureByNearest.1.cls yX6_measureByNearest yX6_measureByNearest ∈ AL := ⟨w2_76, w2_77, w2_78⟩
theorem w2_80 : Cond.methodLink RX6 27 yX6_nearestOpen ∈ AL := AL_in (T2 (List.mem_of_getElem? (i := 80) rfl)) rfl
theorem w2_82 : Cond.instanceMethod yX6_nearestOpen ∈ AL := AL_in (T2 (List.mem_of_getElem? (i := 82) rfl)) rfl
theorem w0_1 : Cond.selects RX6 yX6_nearestOpen yX6_nearestOpen ∈ AL := AL_in (T0 (List.mem_of_getElem? (i := 1) rfl)) rfl
theorem kX6_27 : Cond.methodLink RX6 27 yX6_nearestOpen ∈ AL ∧ Cond.instanceMethod yX6_nearestOpen ∈ AL ∧ Cond.selects mX6_nearestOpen.1.cls yX6_nearestOpen yX6_nearestOpen ∈ AL := ⟨w2_80, w2_82, w0_1⟩
theorem w2_84 : Cond.methodLink RX7 94 yX4_trainAt ∈ AL := AL_in (T2 (List.mem_of_getElem? (i := 84) rfl)) rfl
theorem w2_85 : Cond.instanceMethod yX4_trainAt ∈ AL := AL_in (T2 (List.mem_of_getElem? (i := 85) rfl)) rfl
theorem w2_86 : Cond.selects RX4 yX4_trainAt yX4_trainAt ∈ AL := AL_in (T2 (List.mem_of_getElem? (i := 86) rfl)) rfl
theorem kX7_94 : Cond.methodLink RX7 94 yX4_trainAt ∈ AL ∧ Cond.instanceMethod yX4_trainAt ∈ AL ∧ Cond.selects mX4_trainAt.1.cls yX4_trainAt yX4_trainAt ∈ AL := ⟨w2_84, w2_85, w2_86⟩
theorem w2_88 : Cond.methodLink RX7 100 yX7_leadsBack ∈ AL := AL_in (T2 (List.mem_of_getElem? (i := 88) rfl)) rfl
theorem w2_90 : Cond.instanceMethod yX7_leadsBack ∈ AL := AL_in (T2 (List.mem_of_getElem? (i := 90) rfl)) rfl
theorem w0_2 : Cond.selects RX7 yX7_leadsBack yX7_leadsBack ∈ AL := AL_in (T0 (List.mem_of_getElem? (i := 2) rfl)) rfl
theorem kX7_100 : Cond.methodLink RX7 100 yX7_leadsBack ∈ AL ∧ Cond.instanceMethod yX7_leadsBack ∈ AL ∧ Cond.selects mX7_leadsBack.1.cls yX7_leadsBack yX7_leadsBack ∈ AL := ⟨w2_88, w2_90, w0_2⟩
theorem w2_92 : Cond.methodLink RL 289 yX8_deadlockedByTable ∈ AL := AL_in (T2 (List.mem_of_getElem? (i := 92) rfl)) rfl
theorem w2_93 : Cond.instanceMethod yX8_deadlockedByTable ∈ AL := AL_in (T2 (List.mem_of_getElem? (i := 93) rfl)) rfl
theorem w2_94 : Cond.selects RX8 yX8_deadlockedByTable yX8_deadlockedByTable ∈ AL := AL_in (T2 (List.mem_of_getElem? (i := 94) rfl)) rfl
theorem kL_289 : Cond.methodLink RL 289 yX8_deadlockedByTable ∈ AL ∧ Cond.instanceMethod yX8_deadlockedByTable ∈ AL ∧ Cond.selects mX8_deadlockedByTable.1.cls yX8_deadlockedByTable yX8_deadlockedByTable ∈ AL := ⟨w2_92, w2_93, w2_94⟩
theorem w2_96 : Cond.methodLink RX8 217 yX7_stuckByTable ∈ AL := AL_in (T2 (List.mem_of_getElem? (i := 96) rfl)) rfl
theorem w2_97 : Cond.instanceMethod yX7_stuckByTable ∈ AL := AL_in (T2 (List.mem_of_getElem? (i := 97) rfl)) rfl
theorem w2_98 : Cond.selects RX7 yX7_stuckByTable yX7_stuckByTable ∈ AL := AL_in (T2 (List.mem_of_getElem? (i := 98) rfl)) rfl
theorem kX8_217 : Cond.methodLink RX8 217 yX7_stuckByTable ∈ AL ∧ Cond.instanceMethod yX7_stuckByTable ∈ AL ∧ Cond.selects mX7_stuckByTable.1.cls yX7_stuckByTable yX7_stuckByTable ∈ AL := ⟨w2_96, w2_97, w2_98⟩
theorem w2_100 : Cond.methodLink RL 296 yX8_ticks ∈ AL := AL_in (T2 (List.mem_of_getElem? (i := 100) rfl)) rfl
theorem w2_101 : Cond.instanceMethod yX8_ticks ∈ AL := AL_in (T2 (List.mem_of_getElem? (i := 101) rfl)) rfl
theorem w2_102 : Cond.selects RX8 yX8_ticks yX8_ticks ∈ AL := AL_in (T2 (List.mem_of_getElem? (i := 102) rfl)) rfl
theorem kL_296 : Cond.methodLink RL 296 yX8_ticks ∈ AL ∧ Cond.instanceMethod yX8_ticks ∈ AL ∧ Cond.selects mX8_ticks.1.cls yX8_ticks yX8_ticks ∈ AL := ⟨w2_100, w2_101, w2_102⟩
theorem w2_104 : Cond.methodLink RL 300 yX8_arrivals ∈ AL := AL_in (T2 (List.mem_of_getElem? (i := 104) rfl)) rfl
theorem w2_105 : Cond.instanceMethod yX8_arrivals ∈ AL := AL_in (T2 (List.mem_of_getElem? (i := 105) rfl)) rfl
theorem w2_106 : Cond.selects RX8 yX8_arrivals yX8_arrivals ∈ AL := AL_in (T2 (List.mem_of_getElem? (i := 106) rfl)) rfl
theorem kL_300 : Cond.methodLink RL 300 yX8_arrivals ∈ AL ∧ Cond.instanceMethod yX8_arrivals ∈ AL ∧ Cond.selects mX8_arrivals.1.cls yX8_arrivals yX8_arrivals ∈ AL := ⟨w2_104, w2_105, w2_106⟩
theorem w2_108 : Cond.methodLink RL 317 yX8_writeSignals ∈ AL := AL_in (T2 (List.mem_of_getElem? (i := 108) rfl)) rfl
theorem w2_109 : Cond.instanceMethod yX8_writeSignals ∈ AL := AL_in (T2 (List.mem_of_getElem? (i := 109) rfl)) rfl
theorem w2_110 : Cond.selects RX8 yX8_writeSignals yX8_writeSignals ∈ AL := AL_in (T2 (List.mem_of_getElem? (i := 110) rfl)) rfl
theorem kL_317 : Cond.methodLink RL 317 yX8_writeSignals ∈ AL ∧ Cond.instanceMethod yX8_writeSignals ∈ AL ∧ Cond.selects mX8_writeSignals.1.cls yX8_writeSignals yX8_writeSignals ∈ AL := ⟨w2_108, w2_109, w2_110⟩
theorem w2_112 : Cond.methodLink RX8 253 yX5_clear ∈ AL := AL_in (T2 (List.mem_of_getElem? (i := 112) rfl)) rfl
theorem w2_113 : Cond.instanceMethod yX5_clear ∈ AL := AL_in (T2 (List.mem_of_getElem? (i := 113) rfl)) rfl
theorem w2_114 : Cond.selects RX5 yX5_clear yX5_clear ∈ AL := AL_in (T2 (List.mem_of_getElem? (i := 114) rfl)) rfl
theorem kX8_253 : Cond.methodLink RX8 253 yX5_clear ∈ AL ∧ Cond.instanceMethod yX5_clear ∈ AL ∧ Cond.selects mX5_clear.1.cls yX5_clear yX5_clear ∈ AL := ⟨w2_112, w2_113, w2_114⟩
theorem w2_116 : Cond.methodLink RX8 134 yX4_signalOf ∈ AL := AL_in (T2 (List.mem_of_getElem? (i := 116) rfl)) rfl
theorem w2_117 : Cond.instanceMethod yX4_signalOf ∈ AL := AL_in (T2 (List.mem_of_getElem? (i := 117) rfl)) rfl
theorem w2_118 : Cond.selects RX4 yX4_signalOf yX4_signalOf ∈ AL := AL_in (T2 (List.mem_of_getElem? (i := 118) rfl)) rfl
theorem kX8_134 : Cond.methodLink RX8 134 yX4_signalOf ∈ AL ∧ Cond.instanceMethod yX4_signalOf ∈ AL ∧ Cond.selects mX4_signalOf.1.cls yX4_signalOf yX4_signalOf ∈ AL := ⟨w2_116, w2_117, w2_118⟩
theorem w2_120 : Cond.methodLink RX4 68 yX4_trainAt ∈ AL := AL_in (T2 (List.mem_of_getElem? (i := 120) rfl)) rfl
theorem kX4_68 : Cond.methodLink RX4 68 yX4_trainAt ∈ AL ∧ Cond.instanceMethod yX4_trainAt ∈ AL ∧ Cond.selects mX4_trainAt.1.cls yX4_trainAt yX4_trainAt ∈ AL := ⟨w2_120, w2_85, w2_86⟩
theorem w2_121 : Cond.methodLink RX4 72 yX4_holderOf ∈ AL := AL_in (T2 (List.mem_of_getElem? (i := 121) rfl)) rfl
theorem w2_122 : Cond.instanceMethod yX4_holderOf ∈ AL := AL_in (T2 (List.mem_of_getElem? (i := 122) rfl)) rfl
theorem w2_123 : Cond.selects RX4 yX4_holderOf yX4_holderOf ∈ AL := AL_in (T2 (List.mem_of_getElem? (i := 123) rfl)) rfl
theorem kX4_72 : Cond.methodLink RX4 72 yX4_holderOf ∈ AL ∧ Cond.instanceMethod yX4_holderOf ∈ AL ∧ Cond.selects mX4_holderOf.1.cls yX4_holderOf yX4_holderOf ∈ AL := ⟨w2_121, w2_122, w2_123⟩
theorem w2_125 : Cond.methodLink RX8 260 yX5_put ∈ AL := AL_in (T2 (List.mem_of_getElem? (i := 125) rfl)) rfl
theorem w2_126 : Cond.instanceMethod yX5_put ∈ AL := AL_in (T2 (List.mem_of_getElem? (i := 126) rfl)) rfl
theorem w2_127 : Cond.selects RX5 yX5_put yX5_put ∈ AL := AL_in (T2 (List.mem_of_getElem? (i := 127) rfl)) rfl
theorem kX8_260 : Cond.methodLink RX8 260 yX5_put ∈ AL ∧ Cond.instanceMethod yX5_put ∈ AL ∧ Cond.selects mX5_put.1.cls yX5_put yX5_put ∈ AL := ⟨w2_125, w2_126, w2_127⟩
theorem w2_129 : Cond.methodLink RL 324 yX8_isConsistent ∈ AL := AL_in (T2 (List.mem_of_getElem? (i := 129) rfl)) rfl
theorem w2_130 : Cond.instanceMethod yX8_isConsistent ∈ AL := AL_in (T2 (List.mem_of_getElem? (i := 130) rfl)) rfl
theorem w2_131 : Cond.selects RX8 yX8_isConsistent yX8_isConsistent ∈ AL := AL_in (T2 (List.mem_of_getElem? (i := 131) rfl)) rfl
theorem kL_324 : Cond.methodLink RL 324 yX8_isConsistent ∈ AL ∧ Cond.instanceMethod yX8_isConsistent ∈ AL ∧ Cond.selects mX8_isConsistent.1.cls yX8_isConsistent yX8_isConsistent ∈ AL := ⟨w2_129, w2_130, w2_131⟩
theorem w2_133 : Cond.methodLink RX8 276 yX6_distancesAgree ∈ AL := AL_in (T2 (List.mem_of_getElem? (i := 133) rfl)) rfl
theorem w2_134 : Cond.instanceMethod yX6_distancesAgree ∈ AL := AL_in (T2 (List.mem_of_getElem? (i := 134) rfl)) rfl
theorem w2_135 : Cond.selects RX6 yX6_distancesAgree yX6_distancesAgree ∈ AL := AL_in (T2 (List.mem_of_getElem? (i := 135) rfl)) rfl
theorem kX8_276 : Cond.methodLink RX8 276 yX6_distancesAgree ∈ AL ∧ Cond.instanceMethod yX6_distancesAgree ∈ AL ∧ Cond.selects mX6_distancesAgree.1.cls yX6_distancesAgree yX6_distancesAgree ∈ AL := ⟨w2_133, w2_134, w2_135⟩
theorem w2_137 : Cond.methodLink RX6 52 yX6_measureByRounds ∈ AL := AL_in (T2 (List.mem_of_getElem? (i := 137) rfl)) rfl
theorem w2_138 : Cond.instanceMethod yX6_measureByRounds ∈ AL := AL_in (T2 (List.mem_of_getElem? (i := 138) rfl)) rfl
theorem w2_139 : Cond.selects RX6 yX6_measureByRounds yX6_measureByRounds ∈ AL := AL_in (T2 (List.mem_of_getElem? (i := 139) rfl)) rfl
theorem kX6_52 : Cond.methodLink RX6 52 yX6_measureByRounds ∈ AL ∧ Cond.instanceMethod yX6_measureByRounds ∈ AL ∧ Cond.selects mX6_measureByRounds.1.cls yX6_measureByRounds yX6_measureByRounds ∈ AL := ⟨w2_137, w2_138, w2_139⟩
theorem w2_141 : Cond.methodLink RX6 41 yX6_shortenFrom ∈ AL := AL_in (T2 (List.mem_of_getElem? (i := 141) rfl)) rfl
theorem w2_143 : Cond.instanceMethod yX6_shortenFrom ∈ AL := AL_in (T2 (List.mem_of_getElem? (i := 143) rfl)) rfl
theorem w0_3 : Cond.selects RX6 yX6_shortenFrom yX6_shortenFrom ∈ AL := AL_in (T0 (List.mem_of_getElem? (i := 3) rfl)) rfl
theorem kX6_41 : Cond.methodLink RX6 41 yX6_shortenFrom ∈ AL ∧ Cond.instanceMethod yX6_shortenFrom ∈ AL ∧ Cond.selects mX6_shortenFrom.1.cls yX6_shortenFrom yX6_shortenFrom ∈ AL := ⟨w2_141, w2_143, w0_3⟩
theorem w2_145 : Cond.methodLink RL 346 yX8_undoCount ∈ AL := AL_in (T2 (List.mem_of_getElem? (i := 145) rfl)) rfl
theorem w2_146 : Cond.instanceMethod yX8_undoCount ∈ AL := AL_in (T2 (List.mem_of_getElem? (i := 146) rfl)) rfl
theorem w2_147 : Cond.selects RX8 yX8_undoCount yX8_undoCount ∈ AL := AL_in (T2 (List.mem_of_getElem? (i := 147) rfl)) rfl
theorem kL_346 : Cond.methodLink RL 346 yX8_undoCount ∈ AL ∧ Cond.instanceMethod yX8_undoCount ∈ AL ∧ Cond.selects mX8_undoCount.1.cls yX8_undoCount yX8_undoCount ∈ AL := ⟨w2_145, w2_146, w2_147⟩
theorem w2_149 : Cond.methodLink RL 350 yX8_save ∈ AL := AL_in (T2 (List.mem_of_getElem? (i := 149) rfl)) rfl
theorem w2_150 : Cond.instanceMethod yX8_save ∈ AL := AL_in (T2 (List.mem_of_getElem? (i := 150) rfl)) rfl
theorem w2_151 : Cond.selects RX8 yX8_save yX8_save ∈ AL := AL_in (T2 (List.mem_of_getElem? (i := 151) rfl)) rfl
theorem kL_350 : Cond.methodLink RL 350 yX8_save ∈ AL ∧ Cond.instanceMethod yX8_save ∈ AL ∧ Cond.selects mX8_save.1.cls yX8_save yX8_save ∈ AL := ⟨w2_149, w2_150, w2_151⟩
theorem w2_153 : Cond.methodLink RX8 236 yX4_copyFrom ∈ AL := AL_in (T2 (List.mem_of_getElem? (i := 153) rfl)) rfl
theorem w2_154 : Cond.instanceMethod yX4_copyFrom ∈ AL := AL_in (T2 (List.mem_of_getElem? (i := 154) rfl)) rfl
theorem w2_155 : Cond.selects RX4 yX4_copyFrom yX4_copyFrom ∈ AL := AL_in (T2 (List.mem_of_getElem? (i := 155) rfl)) rfl
theorem kX8_236 : Cond.methodLink RX8 236 yX4_copyFrom ∈ AL ∧ Cond.instanceMethod yX4_copyFrom ∈ AL ∧ Cond.selects mX4_copyFrom.1.cls yX4_copyFrom yX4_copyFrom ∈ AL := ⟨w2_153, w2_154, w2_155⟩
theorem w2_157 : Cond.methodLink RX4 58 arraycopyName ∈ AL := AL_in (T2 (List.mem_of_getElem? (i := 157) rfl)) rfl
theorem w2_159 : Cond.native arraycopyName ∈ AL := AL_in (T2 (List.mem_of_getElem? (i := 159) rfl)) rfl
theorem w2_158 : Cond.static arraycopyName ∈ AL := AL_in (T2 (List.mem_of_getElem? (i := 158) rfl)) rfl
theorem w1_11 : Cond.initialized "java/lang/System" ∈ AL := AL_in (T1 (List.mem_of_getElem? (i := 11) rfl)) rfl
theorem kX4_58 : Cond.methodLink RX4 58 arraycopyName ∈ AL ∧ Cond.native arraycopyName ∈ AL ∧ Cond.static arraycopyName ∈ AL ∧ Cond.initialized "java/lang/System" ∈ AL := ⟨w2_157, w2_159, w2_158, w1_11⟩
theorem w2_160 : Cond.methodLink RL 166 yL_addBlock ∈ AL := AL_in (T2 (List.mem_of_getElem? (i := 160) rfl)) rfl
theorem w2_161 : Cond.static yL_addBlock ∈ AL := AL_in (T2 (List.mem_of_getElem? (i := 161) rfl)) rfl
theorem kL_166 : Cond.methodLink RL 166 yL_addBlock ∈ AL ∧ Cond.static yL_addBlock ∈ AL := ⟨w2_160, w2_161⟩
theorem w2_165 : Cond.methodLink RL 7 yX8_addBlock ∈ AL := AL_in (T2 (List.mem_of_getElem? (i := 165) rfl)) rfl
theorem w2_166 : Cond.instanceMethod yX8_addBlock ∈ AL := AL_in (T2 (List.mem_of_getElem? (i := 166) rfl)) rfl
theorem w2_167 : Cond.selects RX8 yX8_addBlock yX8_addBlock ∈ AL := AL_in (T2 (List.mem_of_getElem? (i := 167) rfl)) rfl
theorem kL_7 : Cond.methodLink RL 7 yX8_addBlock ∈ AL ∧ Cond.instanceMethod yX8_addBlock ∈ AL ∧ Cond.selects mX8_addBlock.1.cls yX8_addBlock yX8_addBlock ∈ AL := ⟨w2_165, w2_166, w2_167⟩
theorem w2_169 : Cond.methodLink RX8 68 yX3_keep ∈ AL := AL_in (T2 (List.mem_of_getElem? (i := 169) rfl)) rfl
theorem w2_170 : Cond.instanceMethod yX3_keep ∈ AL := AL_in (T2 (List.mem_of_getElem? (i := 170) rfl)) rfl
theorem w2_171 : Cond.selects RX3 yX3_keep yX3_keep ∈ AL := AL_in (T2 (List.mem_of_getElem? (i := 171) rfl)) rfl
theorem kX8_68 : Cond.methodLink RX8 68 yX3_keep ∈ AL ∧ Cond.instanceMethod yX3_keep ∈ AL ∧ Cond.selects mX3_keep.1.cls yX3_keep yX3_keep ∈ AL := ⟨w2_169, w2_170, w2_171⟩
theorem w2_173 : Cond.methodLink RX3 25 yX4_copyFrom ∈ AL := AL_in (T2 (List.mem_of_getElem? (i := 173) rfl)) rfl
theorem kX3_25 : Cond.methodLink RX3 25 yX4_copyFrom ∈ AL ∧ Cond.instanceMethod yX4_copyFrom ∈ AL ∧ Cond.selects mX4_copyFrom.1.cls yX4_copyFrom yX4_copyFrom ∈ AL := ⟨w2_173, w2_154, w2_155⟩
theorem w2_174 : Cond.methodLink RX8 72 yX4_placeBlock ∈ AL := AL_in (T2 (List.mem_of_getElem? (i := 174) rfl)) rfl
theorem w2_175 : Cond.instanceMethod yX4_placeBlock ∈ AL := AL_in (T2 (List.mem_of_getElem? (i := 175) rfl)) rfl
theorem w2_176 : Cond.selects RX4 yX4_placeBlock yX4_placeBlock ∈ AL := AL_in (T2 (List.mem_of_getElem? (i := 176) rfl)) rfl
theorem kX8_72 : Cond.methodLink RX8 72 yX4_placeBlock ∈ AL ∧ Cond.instanceMethod yX4_placeBlock ∈ AL ∧ Cond.selects mX4_placeBlock.1.cls yX4_placeBlock yX4_placeBlock ∈ AL := ⟨w2_174, w2_175, w2_176⟩
theorem w2_178 : Cond.methodLink RX8 76 yX8_changed ∈ AL := AL_in (T2 (List.mem_of_getElem? (i := 178) rfl)) rfl
theorem w2_180 : Cond.instanceMethod yX8_changed ∈ AL := AL_in (T2 (List.mem_of_getElem? (i := 180) rfl)) rfl
theorem w0_4 : Cond.selects RX8 yX8_changed yX8_changed ∈ AL := AL_in (T0 (List.mem_of_getElem? (i := 4) rfl)) rfl
theorem kX8_76 : Cond.methodLink RX8 76 yX8_changed ∈ AL ∧ Cond.instanceMethod yX8_changed ∈ AL ∧ Cond.selects mX8_changed.1.cls yX8_changed yX8_changed ∈ AL := ⟨w2_178, w2_180, w0_4⟩
theorem w3_78 : Cond.methodLink RX8 362 yX3_confirm ∈ AL := AL_in (T3 (List.mem_of_getElem? (i := 78) rfl)) rfl
theorem w3_79 : Cond.instanceMethod yX3_confirm ∈ AL := AL_in (T3 (List.mem_of_getElem? (i := 79) rfl)) rfl
theorem w3_80 : Cond.selects RX3 yX3_confirm yX3_confirm ∈ AL := AL_in (T3 (List.mem_of_getElem? (i := 80) rfl)) rfl
theorem kX8_362 : Cond.methodLink RX8 362 yX3_confirm ∈ AL ∧ Cond.instanceMethod yX3_confirm ∈ AL ∧ Cond.selects mX3_confirm.1.cls yX3_confirm yX3_confirm ∈ AL := ⟨w3_78, w3_79, w3_80⟩
theorem w3_82 : Cond.methodLink RX3 29 yJ9_min_7cf53 ∈ AL := AL_in (T3 (List.mem_of_getElem? (i := 82) rfl)) rfl
theorem w3_83 : Cond.static yJ9_min_7cf53 ∈ AL := AL_in (T3 (List.mem_of_getElem? (i := 83) rfl)) rfl
theorem kX3_29 : Cond.methodLink RX3 29 yJ9_min_7cf53 ∈ AL ∧ Cond.static yJ9_min_7cf53 ∈ AL := ⟨w3_82, w3_83⟩
theorem w3_85 : Cond.methodLink RL 175 yL_addCushion ∈ AL := AL_in (T3 (List.mem_of_getElem? (i := 85) rfl)) rfl
theorem w3_86 : Cond.static yL_addCushion ∈ AL := AL_in (T3 (List.mem_of_getElem? (i := 86) rfl)) rfl
theorem kL_175 : Cond.methodLink RL 175 yL_addCushion ∈ AL ∧ Cond.static yL_addCushion ∈ AL := ⟨w3_85, w3_86⟩
theorem w3_88 : Cond.methodLink RL 17 yX8_addCushion ∈ AL := AL_in (T3 (List.mem_of_getElem? (i := 88) rfl)) rfl
theorem w3_89 : Cond.instanceMethod yX8_addCushion ∈ AL := AL_in (T3 (List.mem_of_getElem? (i := 89) rfl)) rfl
theorem w3_90 : Cond.selects RX8 yX8_addCushion yX8_addCushion ∈ AL := AL_in (T3 (List.mem_of_getElem? (i := 90) rfl)) rfl
theorem kL_17 : Cond.methodLink RL 17 yX8_addCushion ∈ AL ∧ Cond.instanceMethod yX8_addCushion ∈ AL ∧ Cond.selects mX8_addCushion.1.cls yX8_addCushion yX8_addCushion ∈ AL := ⟨w3_88, w3_89, w3_90⟩
theorem w3_92 : Cond.methodLink RL 178 yL_link ∈ AL := AL_in (T3 (List.mem_of_getElem? (i := 92) rfl)) rfl
theorem w3_93 : Cond.static yL_link ∈ AL := AL_in (T3 (List.mem_of_getElem? (i := 93) rfl)) rfl
theorem kL_178 : Cond.methodLink RL 178 yL_link ∈ AL ∧ Cond.static yL_link ∈ AL := ⟨w3_92, w3_93⟩
theorem w3_116 : Cond.methodLink RL 20 yX8_link ∈ AL := AL_in (T3 (List.mem_of_getElem? (i := 116) rfl)) rfl
theorem w3_117 : Cond.instanceMethod yX8_link ∈ AL := AL_in (T3 (List.mem_of_getElem? (i := 117) rfl)) rfl
theorem w3_118 : Cond.selects RX8 yX8_link yX8_link ∈ AL := AL_in (T3 (List.mem_of_getElem? (i := 118) rfl)) rfl
theorem kL_20 : Cond.methodLink RL 20 yX8_link ∈ AL ∧ Cond.instanceMethod yX8_link ∈ AL ∧ Cond.selects mX8_link.1.cls yX8_link yX8_link ∈ AL := ⟨w3_116, w3_117, w3_118⟩
theorem w3_120 : Cond.methodLink RX8 80 yX4_join ∈ AL := AL_in (T3 (List.mem_of_getElem? (i := 120) rfl)) rfl
theorem w3_121 : Cond.instanceMethod yX4_join ∈ AL := AL_in (T3 (List.mem_of_getElem? (i := 121) rfl)) rfl
theorem w3_122 : Cond.selects RX4 yX4_join yX4_join ∈ AL := AL_in (T3 (List.mem_of_getElem? (i := 122) rfl)) rfl
theorem kX8_80 : Cond.methodLink RX8 80 yX4_join ∈ AL ∧ Cond.instanceMethod yX4_join ∈ AL ∧ Cond.selects mX4_join.1.cls yX4_join yX4_join ∈ AL := ⟨w3_120, w3_121, w3_122⟩
theorem w3_124 : Cond.methodLink RX4 75 yX4_isBlock ∈ AL := AL_in (T3 (List.mem_of_getElem? (i := 124) rfl)) rfl
theorem w3_125 : Cond.instanceMethod yX4_isBlock ∈ AL := AL_in (T3 (List.mem_of_getElem? (i := 125) rfl)) rfl
theorem w3_126 : Cond.selects RX4 yX4_isBlock yX4_isBlock ∈ AL := AL_in (T3 (List.mem_of_getElem? (i := 126) rfl)) rfl
theorem kX4_75 : Cond.methodLink RX4 75 yX4_isBlock ∈ AL ∧ Cond.instanceMethod yX4_isBlock ∈ AL ∧ Cond.selects mX4_isBlock.1.cls yX4_isBlock yX4_isBlock ∈ AL := ⟨w3_124, w3_125, w3_126⟩
theorem w3_128 : Cond.methodLink RX4 79 yX4_isJoined ∈ AL := AL_in (T3 (List.mem_of_getElem? (i := 128) rfl)) rfl
theorem kX4_79 : Cond.methodLink RX4 79 yX4_isJoined ∈ AL ∧ Cond.instanceMethod yX4_isJoined ∈ AL ∧ Cond.selects mX4_isJoined.1.cls yX4_isJoined yX4_isJoined ∈ AL := ⟨w3_128, w2_39, w2_40⟩
theorem w3_129 : Cond.methodLink RX4 82 yX4_countLinks ∈ AL := AL_in (T3 (List.mem_of_getElem? (i := 129) rfl)) rfl
theorem w3_131 : Cond.instanceMethod yX4_countLinks ∈ AL := AL_in (T3 (List.mem_of_getElem? (i := 131) rfl)) rfl
theorem w0_6 : Cond.selects RX4 yX4_countLinks yX4_countLinks ∈ AL := AL_in (T0 (List.mem_of_getElem? (i := 6) rfl)) rfl
theorem kX4_82 : Cond.methodLink RX4 82 yX4_countLinks ∈ AL ∧ Cond.instanceMethod yX4_countLinks ∈ AL ∧ Cond.selects mX4_countLinks.1.cls yX4_countLinks yX4_countLinks ∈ AL := ⟨w3_129, w3_131, w0_6⟩
theorem w3_133 : Cond.methodLink RX4 86 yJ6_bitCount_0f7a4 ∈ AL := AL_in (T3 (List.mem_of_getElem? (i := 133) rfl)) rfl
theorem w3_134 : Cond.static yJ6_bitCount_0f7a4 ∈ AL := AL_in (T3 (List.mem_of_getElem? (i := 134) rfl)) rfl
theorem kX4_86 : Cond.methodLink RX4 86 yJ6_bitCount_0f7a4 ∈ AL ∧ Cond.static yJ6_bitCount_0f7a4 ∈ AL := ⟨w3_133, w3_134⟩
theorem w3_139 : Cond.methodLink RL 182 yL_unlink ∈ AL := AL_in (T3 (List.mem_of_getElem? (i := 139) rfl)) rfl
theorem w3_140 : Cond.static yL_unlink ∈ AL := AL_in (T3 (List.mem_of_getElem? (i := 140) rfl)) rfl
theorem kL_182 : Cond.methodLink RL 182 yL_unlink ∈ AL ∧ Cond.static yL_unlink ∈ AL := ⟨w3_139, w3_140⟩
theorem w3_143 : Cond.methodLink RL 26 yX8_unlink ∈ AL := AL_in (T3 (List.mem_of_getElem? (i := 143) rfl)) rfl
theorem w3_144 : Cond.instanceMethod yX8_unlink ∈ AL := AL_in (T3 (List.mem_of_getElem? (i := 144) rfl)) rfl
theorem w3_145 : Cond.selects RX8 yX8_unlink yX8_unlink ∈ AL := AL_in (T3 (List.mem_of_getElem? (i := 145) rfl)) rfl
theorem kL_26 : Cond.methodLink RL 26 yX8_unlink ∈ AL ∧ Cond.instanceMethod yX8_unlink ∈ AL ∧ Cond.selects mX8_unlink.1.cls yX8_unlink yX8_unlink ∈ AL := ⟨w3_143, w3_144, w3_145⟩
theorem w3_147 : Cond.methodLink RX8 84 yX4_separate ∈ AL := AL_in (T3 (List.mem_of_getElem? (i := 147) rfl)) rfl
theorem w3_148 : Cond.instanceMethod yX4_separate ∈ AL := AL_in (T3 (List.mem_of_getElem? (i := 148) rfl)) rfl
theorem w3_149 : Cond.selects RX4 yX4_separate yX4_separate ∈ AL := AL_in (T3 (List.mem_of_getElem? (i := 149) rfl)) rfl
theorem kX8_84 : Cond.methodLink RX8 84 yX4_separate ∈ AL ∧ Cond.instanceMethod yX4_separate ∈ AL ∧ Cond.selects mX4_separate.1.cls yX4_separate yX4_separate ∈ AL := ⟨w3_147, w3_148, w3_149⟩
theorem w3_151 : Cond.methodLink RL 185 yL_putCat ∈ AL := AL_in (T3 (List.mem_of_getElem? (i := 151) rfl)) rfl
theorem w3_152 : Cond.static yL_putCat ∈ AL := AL_in (T3 (List.mem_of_getElem? (i := 152) rfl)) rfl
theorem kL_185 : Cond.methodLink RL 185 yL_putCat ∈ AL ∧ Cond.static yL_putCat ∈ AL := ⟨w3_151, w3_152⟩
theorem w3_155 : Cond.methodLink RL 31 yX8_putCat ∈ AL := AL_in (T3 (List.mem_of_getElem? (i := 155) rfl)) rfl
theorem w3_156 : Cond.instanceMethod yX8_putCat ∈ AL := AL_in (T3 (List.mem_of_getElem? (i := 156) rfl)) rfl
theorem w3_157 : Cond.selects RX8 yX8_putCat yX8_putCat ∈ AL := AL_in (T3 (List.mem_of_getElem? (i := 157) rfl)) rfl
theorem kL_31 : Cond.methodLink RL 31 yX8_putCat ∈ AL ∧ Cond.instanceMethod yX8_putCat ∈ AL ∧ Cond.selects mX8_putCat.1.cls yX8_putCat yX8_putCat ∈ AL := ⟨w3_155, w3_156, w3_157⟩
theorem w3_159 : Cond.methodLink RX8 87 yX4_seatCat ∈ AL := AL_in (T3 (List.mem_of_getElem? (i := 159) rfl)) rfl
theorem w3_160 : Cond.instanceMethod yX4_seatCat ∈ AL := AL_in (T3 (List.mem_of_getElem? (i := 160) rfl)) rfl
theorem w3_161 : Cond.selects RX4 yX4_seatCat yX4_seatCat ∈ AL := AL_in (T3 (List.mem_of_getElem? (i := 161) rfl)) rfl
theorem kX8_87 : Cond.methodLink RX8 87 yX4_seatCat ∈ AL ∧ Cond.instanceMethod yX4_seatCat ∈ AL ∧ Cond.selects mX4_seatCat.1.cls yX4_seatCat yX4_seatCat ∈ AL := ⟨w3_159, w3_160, w3_161⟩
theorem w3_163 : Cond.methodLink RL 188 yL_removeCat ∈ AL := AL_in (T3 (List.mem_of_getElem? (i := 163) rfl)) rfl
theorem w3_164 : Cond.static yL_removeCat ∈ AL := AL_in (T3 (List.mem_of_getElem? (i := 164) rfl)) rfl
theorem kL_188 : Cond.methodLink RL 188 yL_removeCat ∈ AL ∧ Cond.static yL_removeCat ∈ AL := ⟨w3_163, w3_164⟩
theorem w3_166 : Cond.methodLink RL 36 yX8_removeCat ∈ AL := AL_in (T3 (List.mem_of_getElem? (i := 166) rfl)) rfl
theorem w3_167 : Cond.instanceMethod yX8_removeCat ∈ AL := AL_in (T3 (List.mem_of_getElem? (i := 167) rfl)) rfl
theorem w3_168 : Cond.selects RX8 yX8_removeCat yX8_removeCat ∈ AL := AL_in (T3 (List.mem_of_getElem? (i := 168) rfl)) rfl
theorem kL_36 : Cond.methodLink RL 36 yX8_removeCat ∈ AL ∧ Cond.instanceMethod yX8_removeCat ∈ AL ∧ Cond.selects mX8_removeCat.1.cls yX8_removeCat yX8_removeCat ∈ AL := ⟨w3_166, w3_167, w3_168⟩
theorem w3_170 : Cond.methodLink RX8 90 yX4_liftCat ∈ AL := AL_in (T3 (List.mem_of_getElem? (i := 170) rfl)) rfl
theorem w3_171 : Cond.instanceMethod yX4_liftCat ∈ AL := AL_in (T3 (List.mem_of_getElem? (i := 171) rfl)) rfl
theorem w3_172 : Cond.selects RX4 yX4_liftCat yX4_liftCat ∈ AL := AL_in (T3 (List.mem_of_getElem? (i := 172) rfl)) rfl
theorem kX8_90 : Cond.methodLink RX8 90 yX4_liftCat ∈ AL ∧ Cond.instanceMethod yX4_liftCat ∈ AL ∧ Cond.selects mX4_liftCat.1.cls yX4_liftCat yX4_liftCat ∈ AL := ⟨w3_170, w3_171, w3_172⟩
theorem w3_174 : Cond.methodLink RL 195 yL_length ∈ AL := AL_in (T3 (List.mem_of_getElem? (i := 174) rfl)) rfl
theorem w3_175 : Cond.static yL_length ∈ AL := AL_in (T3 (List.mem_of_getElem? (i := 175) rfl)) rfl
theorem kL_195 : Cond.methodLink RL 195 yL_length ∈ AL ∧ Cond.static yL_length ∈ AL := ⟨w3_174, w3_175⟩
theorem w3_177 : Cond.methodLink RL 39 yX8_length ∈ AL := AL_in (T3 (List.mem_of_getElem? (i := 177) rfl)) rfl
theorem w3_178 : Cond.instanceMethod yX8_length ∈ AL := AL_in (T3 (List.mem_of_getElem? (i := 178) rfl)) rfl
theorem w3_179 : Cond.selects RX8 yX8_length yX8_length ∈ AL := AL_in (T3 (List.mem_of_getElem? (i := 179) rfl)) rfl
theorem kL_39 : Cond.methodLink RL 39 yX8_length ∈ AL ∧ Cond.instanceMethod yX8_length ∈ AL ∧ Cond.selects mX8_length.1.cls yX8_length yX8_length ∈ AL := ⟨w3_177, w3_178, w3_179⟩
theorem w3_181 : Cond.methodLink RX8 96 yX8_needBlock ∈ AL := AL_in (T3 (List.mem_of_getElem? (i := 181) rfl)) rfl
theorem w3_183 : Cond.instanceMethod yX8_needBlock ∈ AL := AL_in (T3 (List.mem_of_getElem? (i := 183) rfl)) rfl
theorem w0_7 : Cond.selects RX8 yX8_needBlock yX8_needBlock ∈ AL := AL_in (T0 (List.mem_of_getElem? (i := 7) rfl)) rfl
theorem kX8_96 : Cond.methodLink RX8 96 yX8_needBlock ∈ AL ∧ Cond.instanceMethod yX8_needBlock ∈ AL ∧ Cond.selects mX8_needBlock.1.cls yX8_needBlock yX8_needBlock ∈ AL := ⟨w3_181, w3_183, w0_7⟩
theorem w3_185 : Cond.methodLink RX8 341 yX4_isBlock ∈ AL := AL_in (T3 (List.mem_of_getElem? (i := 185) rfl)) rfl
theorem kX8_341 : Cond.methodLink RX8 341 yX4_isBlock ∈ AL ∧ Cond.instanceMethod yX4_isBlock ∈ AL ∧ Cond.selects mX4_isBlock.1.cls yX4_isBlock yX4_isBlock ∈ AL := ⟨w3_185, w3_125, w3_126⟩
theorem w3_187 : Cond.methodLink RL 198 yL_isCushion ∈ AL := AL_in (T3 (List.mem_of_getElem? (i := 187) rfl)) rfl
theorem w3_188 : Cond.static yL_isCushion ∈ AL := AL_in (T3 (List.mem_of_getElem? (i := 188) rfl)) rfl
theorem kL_198 : Cond.methodLink RL 198 yL_isCushion ∈ AL ∧ Cond.static yL_isCushion ∈ AL := ⟨w3_187, w3_188⟩
theorem w3_190 : Cond.methodLink RL 42 yX8_isCushion ∈ AL := AL_in (T3 (List.mem_of_getElem? (i := 190) rfl)) rfl
theorem w3_191 : Cond.instanceMethod yX8_isCushion ∈ AL := AL_in (T3 (List.mem_of_getElem? (i := 191) rfl)) rfl
theorem w3_192 : Cond.selects RX8 yX8_isCushion yX8_isCushion ∈ AL := AL_in (T3 (List.mem_of_getElem? (i := 192) rfl)) rfl
theorem kL_42 : Cond.methodLink RL 42 yX8_isCushion ∈ AL ∧ Cond.instanceMethod yX8_isCushion ∈ AL ∧ Cond.selects mX8_isCushion.1.cls yX8_isCushion yX8_isCushion ∈ AL := ⟨w3_190, w3_191, w3_192⟩
theorem w3_194 : Cond.methodLink RX8 107 yX8_has ∈ AL := AL_in (T3 (List.mem_of_getElem? (i := 194) rfl)) rfl
theorem w2_33 : Cond.static yX8_has ∈ AL := AL_in (T2 (List.mem_of_getElem? (i := 33) rfl)) rfl
theorem kX8_107 : Cond.methodLink RX8 107 yX8_has ∈ AL ∧ Cond.static yX8_has ∈ AL := ⟨w3_194, w2_33⟩
theorem w3_195 : Cond.methodLink RL 201 yL_hasCat ∈ AL := AL_in (T3 (List.mem_of_getElem? (i := 195) rfl)) rfl
theorem w3_196 : Cond.static yL_hasCat ∈ AL := AL_in (T3 (List.mem_of_getElem? (i := 196) rfl)) rfl
theorem kL_201 : Cond.methodLink RL 201 yL_hasCat ∈ AL ∧ Cond.static yL_hasCat ∈ AL := ⟨w3_195, w3_196⟩
theorem w3_198 : Cond.methodLink RL 46 yX8_hasCat ∈ AL := AL_in (T3 (List.mem_of_getElem? (i := 198) rfl)) rfl
theorem w3_199 : Cond.instanceMethod yX8_hasCat ∈ AL := AL_in (T3 (List.mem_of_getElem? (i := 199) rfl)) rfl
theorem w3_200 : Cond.selects RX8 yX8_hasCat yX8_hasCat ∈ AL := AL_in (T3 (List.mem_of_getElem? (i := 200) rfl)) rfl
theorem kL_46 : Cond.methodLink RL 46 yX8_hasCat ∈ AL ∧ Cond.instanceMethod yX8_hasCat ∈ AL ∧ Cond.selects mX8_hasCat.1.cls yX8_hasCat yX8_hasCat ∈ AL := ⟨w3_198, w3_199, w3_200⟩
theorem w3_202 : Cond.methodLink RL 204 yL_areLinked ∈ AL := AL_in (T3 (List.mem_of_getElem? (i := 202) rfl)) rfl
theorem w3_203 : Cond.static yL_areLinked ∈ AL := AL_in (T3 (List.mem_of_getElem? (i := 203) rfl)) rfl
theorem kL_204 : Cond.methodLink RL 204 yL_areLinked ∈ AL ∧ Cond.static yL_areLinked ∈ AL := ⟨w3_202, w3_203⟩
theorem w3_205 : Cond.methodLink RL 49 yX8_areLinked ∈ AL := AL_in (T3 (List.mem_of_getElem? (i := 205) rfl)) rfl
theorem w3_206 : Cond.instanceMethod yX8_areLinked ∈ AL := AL_in (T3 (List.mem_of_getElem? (i := 206) rfl)) rfl
theorem w3_207 : Cond.selects RX8 yX8_areLinked yX8_areLinked ∈ AL := AL_in (T3 (List.mem_of_getElem? (i := 207) rfl)) rfl
theorem kL_49 : Cond.methodLink RL 49 yX8_areLinked ∈ AL ∧ Cond.instanceMethod yX8_areLinked ∈ AL ∧ Cond.selects mX8_areLinked.1.cls yX8_areLinked yX8_areLinked ∈ AL := ⟨w3_205, w3_206, w3_207⟩
theorem w3_209 : Cond.methodLink RX8 114 yX4_isJoined ∈ AL := AL_in (T3 (List.mem_of_getElem? (i := 209) rfl)) rfl
theorem kX8_114 : Cond.methodLink RX8 114 yX4_isJoined ∈ AL ∧ Cond.instanceMethod yX4_isJoined ∈ AL ∧ Cond.selects mX4_isJoined.1.cls yX4_isJoined yX4_isJoined ∈ AL := ⟨w3_209, w2_39, w2_40⟩
theorem w3_210 : Cond.methodLink RL 207 yL_degree ∈ AL := AL_in (T3 (List.mem_of_getElem? (i := 210) rfl)) rfl
theorem w3_211 : Cond.static yL_degree ∈ AL := AL_in (T3 (List.mem_of_getElem? (i := 211) rfl)) rfl
theorem kL_207 : Cond.methodLink RL 207 yL_degree ∈ AL ∧ Cond.static yL_degree ∈ AL := ⟨w3_210, w3_211⟩
theorem w3_213 : Cond.methodLink RL 53 yX8_degree ∈ AL := AL_in (T3 (List.mem_of_getElem? (i := 213) rfl)) rfl
theorem w3_214 : Cond.instanceMethod yX8_degree ∈ AL := AL_in (T3 (List.mem_of_getElem? (i := 214) rfl)) rfl
theorem w3_215 : Cond.selects RX8 yX8_degree yX8_degree ∈ AL := AL_in (T3 (List.mem_of_getElem? (i := 215) rfl)) rfl
theorem kL_53 : Cond.methodLink RL 53 yX8_degree ∈ AL ∧ Cond.instanceMethod yX8_degree ∈ AL ∧ Cond.selects mX8_degree.1.cls yX8_degree yX8_degree ∈ AL := ⟨w3_213, w3_214, w3_215⟩
theorem w3_217 : Cond.methodLink RX8 120 yJ6_bitCount_0f7a4 ∈ AL := AL_in (T3 (List.mem_of_getElem? (i := 217) rfl)) rfl
theorem kX8_120 : Cond.methodLink RX8 120 yJ6_bitCount_0f7a4 ∈ AL ∧ Cond.static yJ6_bitCount_0f7a4 ∈ AL := ⟨w3_217, w3_134⟩
theorem w3_218 : Cond.methodLink RL 210 yL_trainIn ∈ AL := AL_in (T3 (List.mem_of_getElem? (i := 218) rfl)) rfl
theorem w3_219 : Cond.static yL_trainIn ∈ AL := AL_in (T3 (List.mem_of_getElem? (i := 219) rfl)) rfl
theorem kL_210 : Cond.methodLink RL 210 yL_trainIn ∈ AL ∧ Cond.static yL_trainIn ∈ AL := ⟨w3_218, w3_219⟩
theorem w3_221 : Cond.methodLink RL 56 yX8_trainIn ∈ AL := AL_in (T3 (List.mem_of_getElem? (i := 221) rfl)) rfl
theorem w3_222 : Cond.instanceMethod yX8_trainIn ∈ AL := AL_in (T3 (List.mem_of_getElem? (i := 222) rfl)) rfl
theorem w3_223 : Cond.selects RX8 yX8_trainIn yX8_trainIn ∈ AL := AL_in (T3 (List.mem_of_getElem? (i := 223) rfl)) rfl
theorem kL_56 : Cond.methodLink RL 56 yX8_trainIn ∈ AL ∧ Cond.instanceMethod yX8_trainIn ∈ AL ∧ Cond.selects mX8_trainIn.1.cls yX8_trainIn yX8_trainIn ∈ AL := ⟨w3_221, w3_222, w3_223⟩
theorem w3_225 : Cond.methodLink RX8 125 yX4_trainAt ∈ AL := AL_in (T3 (List.mem_of_getElem? (i := 225) rfl)) rfl
theorem kX8_125 : Cond.methodLink RX8 125 yX4_trainAt ∈ AL ∧ Cond.instanceMethod yX4_trainAt ∈ AL ∧ Cond.selects mX4_trainAt.1.cls yX4_trainAt yX4_trainAt ∈ AL := ⟨w3_225, w2_85, w2_86⟩
theorem w3_226 : Cond.methodLink RX8 128 yX8_found ∈ AL := AL_in (T3 (List.mem_of_getElem? (i := 226) rfl)) rfl
theorem w3_227 : Cond.static yX8_found ∈ AL := AL_in (T3 (List.mem_of_getElem? (i := 227) rfl)) rfl
theorem kX8_128 : Cond.methodLink RX8 128 yX8_found ∈ AL ∧ Cond.static yX8_found ∈ AL := ⟨w3_226, w3_227⟩
theorem w3_229 : Cond.methodLink RL 213 yL_reservedBy ∈ AL := AL_in (T3 (List.mem_of_getElem? (i := 229) rfl)) rfl
theorem w3_230 : Cond.static yL_reservedBy ∈ AL := AL_in (T3 (List.mem_of_getElem? (i := 230) rfl)) rfl
theorem kL_213 : Cond.methodLink RL 213 yL_reservedBy ∈ AL ∧ Cond.static yL_reservedBy ∈ AL := ⟨w3_229, w3_230⟩
theorem w3_232 : Cond.methodLink RL 59 yX8_reservedBy ∈ AL := AL_in (T3 (List.mem_of_getElem? (i := 232) rfl)) rfl
theorem w3_233 : Cond.instanceMethod yX8_reservedBy ∈ AL := AL_in (T3 (List.mem_of_getElem? (i := 233) rfl)) rfl
theorem w3_234 : Cond.selects RX8 yX8_reservedBy yX8_reservedBy ∈ AL := AL_in (T3 (List.mem_of_getElem? (i := 234) rfl)) rfl
theorem kL_59 : Cond.methodLink RL 59 yX8_reservedBy ∈ AL ∧ Cond.instanceMethod yX8_reservedBy ∈ AL ∧ Cond.selects mX8_reservedBy.1.cls yX8_reservedBy yX8_reservedBy ∈ AL := ⟨w3_232, w3_233, w3_234⟩
theorem w3_236 : Cond.methodLink RX8 131 yX4_holderOf ∈ AL := AL_in (T3 (List.mem_of_getElem? (i := 236) rfl)) rfl
theorem kX8_131 : Cond.methodLink RX8 131 yX4_holderOf ∈ AL ∧ Cond.instanceMethod yX4_holderOf ∈ AL ∧ Cond.selects mX4_holderOf.1.cls yX4_holderOf yX4_holderOf ∈ AL := ⟨w3_236, w2_122, w2_123⟩
theorem w3_237 : Cond.methodLink RL 216 yL_signal ∈ AL := AL_in (T3 (List.mem_of_getElem? (i := 237) rfl)) rfl
theorem w3_238 : Cond.static yL_signal ∈ AL := AL_in (T3 (List.mem_of_getElem? (i := 238) rfl)) rfl
theorem kL_216 : Cond.methodLink RL 216 yL_signal ∈ AL ∧ Cond.static yL_signal ∈ AL := ⟨w3_237, w3_238⟩
theorem w4_0 : Cond.methodLink RL 62 yX8_signal ∈ AL := AL_in (T4 (List.mem_of_getElem? (i := 0) rfl)) rfl
theorem w4_1 : Cond.instanceMethod yX8_signal ∈ AL := AL_in (T4 (List.mem_of_getElem? (i := 1) rfl)) rfl
theorem w4_2 : Cond.selects RX8 yX8_signal yX8_signal ∈ AL := AL_in (T4 (List.mem_of_getElem? (i := 2) rfl)) rfl
theorem kL_62 : Cond.methodLink RL 62 yX8_signal ∈ AL ∧ Cond.instanceMethod yX8_signal ∈ AL ∧ Cond.selects mX8_signal.1.cls yX8_signal yX8_signal ∈ AL := ⟨w4_0, w4_1, w4_2⟩
theorem w4_4 : Cond.methodLink RL 219 yL_distance ∈ AL := AL_in (T4 (List.mem_of_getElem? (i := 4) rfl)) rfl
theorem w4_5 : Cond.static yL_distance ∈ AL := AL_in (T4 (List.mem_of_getElem? (i := 5) rfl)) rfl
theorem kL_219 : Cond.methodLink RL 219 yL_distance ∈ AL ∧ Cond.static yL_distance ∈ AL := ⟨w4_4, w4_5⟩
theorem w4_7 : Cond.methodLink RL 66 yX8_distance ∈ AL := AL_in (T4 (List.mem_of_getElem? (i := 7) rfl)) rfl
theorem w4_8 : Cond.instanceMethod yX8_distance ∈ AL := AL_in (T4 (List.mem_of_getElem? (i := 8) rfl)) rfl
theorem w4_9 : Cond.selects RX8 yX8_distance yX8_distance ∈ AL := AL_in (T4 (List.mem_of_getElem? (i := 9) rfl)) rfl
theorem kL_66 : Cond.methodLink RL 66 yX8_distance ∈ AL ∧ Cond.instanceMethod yX8_distance ∈ AL ∧ Cond.selects mX8_distance.1.cls yX8_distance yX8_distance ∈ AL := ⟨w4_7, w4_8, w4_9⟩
theorem w4_11 : Cond.methodLink RX8 138 yX6_measureByNearest ∈ AL := AL_in (T4 (List.mem_of_getElem? (i := 11) rfl)) rfl
theorem kX8_138 : Cond.methodLink RX8 138 yX6_measureByNearest ∈ AL ∧ Cond.instanceMethod yX6_measureByNearest ∈ AL ∧ Cond.selects mX6_measureByNearest.1.cls yX6_measureByNearest yX6_measureByNearest ∈ AL := ⟨w4_11, w2_77, w2_78⟩
theorem w4_12 : Cond.methodLink RL 222 yL_distanceByRounds ∈ AL := AL_in (T4 (List.mem_of_getElem? (i := 12) rfl)) rfl
theorem w4_13 : Cond.static yL_distanceByRounds ∈ AL := AL_in (T4 (List.mem_of_getElem? (i := 13) rfl)) rfl
theorem kL_222 : Cond.methodLink RL 222 yL_distanceByRounds ∈ AL ∧ Cond.static yL_distanceByRounds ∈ AL := ⟨w4_12, w4_13⟩
theorem w4_15 : Cond.methodLink RL 69 yX8_distanceByRounds ∈ AL := AL_in (T4 (List.mem_of_getElem? (i := 15) rfl)) rfl
theorem w4_16 : Cond.instanceMethod yX8_distanceByRounds ∈ AL := AL_in (T4 (List.mem_of_getElem? (i := 16) rfl)) rfl
theorem w4_17 : Cond.selects RX8 yX8_distanceByRounds yX8_distanceByRounds ∈ AL := AL_in (T4 (List.mem_of_getElem? (i := 17) rfl)) rfl
theorem kL_69 : Cond.methodLink RL 69 yX8_distanceByRounds ∈ AL ∧ Cond.instanceMethod yX8_distanceByRounds ∈ AL ∧ Cond.selects mX8_distanceByRounds.1.cls yX8_distanceByRounds yX8_distanceByRounds ∈ AL := ⟨w4_15, w4_16, w4_17⟩
theorem w4_19 : Cond.methodLink RX8 145 yX6_measureByRounds ∈ AL := AL_in (T4 (List.mem_of_getElem? (i := 19) rfl)) rfl
theorem kX8_145 : Cond.methodLink RX8 145 yX6_measureByRounds ∈ AL ∧ Cond.instanceMethod yX6_measureByRounds ∈ AL ∧ Cond.selects mX6_measureByRounds.1.cls yX6_measureByRounds yX6_measureByRounds ∈ AL := ⟨w4_19, w2_138, w2_139⟩
theorem w4_20 : Cond.methodLink RL 225 yL_nextBlock ∈ AL := AL_in (T4 (List.mem_of_getElem? (i := 20) rfl)) rfl
theorem w4_21 : Cond.static yL_nextBlock ∈ AL := AL_in (T4 (List.mem_of_getElem? (i := 21) rfl)) rfl
theorem kL_225 : Cond.methodLink RL 225 yL_nextBlock ∈ AL ∧ Cond.static yL_nextBlock ∈ AL := ⟨w4_20, w4_21⟩
theorem w4_23 : Cond.methodLink RL 72 yX8_nextBlock ∈ AL := AL_in (T4 (List.mem_of_getElem? (i := 23) rfl)) rfl
theorem w4_24 : Cond.instanceMethod yX8_nextBlock ∈ AL := AL_in (T4 (List.mem_of_getElem? (i := 24) rfl)) rfl
theorem w4_25 : Cond.selects RX8 yX8_nextBlock yX8_nextBlock ∈ AL := AL_in (T4 (List.mem_of_getElem? (i := 25) rfl)) rfl
theorem kL_72 : Cond.methodLink RL 72 yX8_nextBlock ∈ AL ∧ Cond.instanceMethod yX8_nextBlock ∈ AL ∧ Cond.selects mX8_nextBlock.1.cls yX8_nextBlock yX8_nextBlock ∈ AL := ⟨w4_23, w4_24, w4_25⟩
theorem w4_27 : Cond.methodLink RX8 151 yX8_needTrain ∈ AL := AL_in (T4 (List.mem_of_getElem? (i := 27) rfl)) rfl
theorem w4_29 : Cond.instanceMethod yX8_needTrain ∈ AL := AL_in (T4 (List.mem_of_getElem? (i := 29) rfl)) rfl
theorem w0_8 : Cond.selects RX8 yX8_needTrain yX8_needTrain ∈ AL := AL_in (T0 (List.mem_of_getElem? (i := 8) rfl)) rfl
theorem kX8_151 : Cond.methodLink RX8 151 yX8_needTrain ∈ AL ∧ Cond.instanceMethod yX8_needTrain ∈ AL ∧ Cond.selects mX8_needTrain.1.cls yX8_needTrain yX8_needTrain ∈ AL := ⟨w4_27, w4_29, w0_8⟩
theorem w4_31 : Cond.methodLink RX8 347 yX4_isTrain ∈ AL := AL_in (T4 (List.mem_of_getElem? (i := 31) rfl)) rfl
theorem w4_32 : Cond.instanceMethod yX4_isTrain ∈ AL := AL_in (T4 (List.mem_of_getElem? (i := 32) rfl)) rfl
theorem w4_33 : Cond.selects RX4 yX4_isTrain yX4_isTrain ∈ AL := AL_in (T4 (List.mem_of_getElem? (i := 33) rfl)) rfl
theorem kX8_347 : Cond.methodLink RX8 347 yX4_isTrain ∈ AL ∧ Cond.instanceMethod yX4_isTrain ∈ AL ∧ Cond.selects mX4_isTrain.1.cls yX4_isTrain yX4_isTrain ∈ AL := ⟨w4_31, w4_32, w4_33⟩
theorem w4_36 : Cond.methodLink RX8 154 yX6_nextFor ∈ AL := AL_in (T4 (List.mem_of_getElem? (i := 36) rfl)) rfl
theorem kX8_154 : Cond.methodLink RX8 154 yX6_nextFor ∈ AL ∧ Cond.instanceMethod yX6_nextFor ∈ AL ∧ Cond.selects mX6_nextFor.1.cls yX6_nextFor yX6_nextFor ∈ AL := ⟨w4_36, w2_73, w2_74⟩
theorem w4_37 : Cond.methodLink RL 236 yL_nearestCushion ∈ AL := AL_in (T4 (List.mem_of_getElem? (i := 37) rfl)) rfl
theorem w4_38 : Cond.static yL_nearestCushion ∈ AL := AL_in (T4 (List.mem_of_getElem? (i := 38) rfl)) rfl
theorem kL_236 : Cond.methodLink RL 236 yL_nearestCushion ∈ AL ∧ Cond.static yL_nearestCushion ∈ AL := ⟨w4_37, w4_38⟩
theorem w4_40 : Cond.methodLink RL 75 yX8_nearestCushion ∈ AL := AL_in (T4 (List.mem_of_getElem? (i := 40) rfl)) rfl
theorem w4_41 : Cond.instanceMethod yX8_nearestCushion ∈ AL := AL_in (T4 (List.mem_of_getElem? (i := 41) rfl)) rfl
theorem w4_42 : Cond.selects RX8 yX8_nearestCushion yX8_nearestCushion ∈ AL := AL_in (T4 (List.mem_of_getElem? (i := 42) rfl)) rfl
theorem kL_75 : Cond.methodLink RL 75 yX8_nearestCushion ∈ AL ∧ Cond.instanceMethod yX8_nearestCushion ∈ AL ∧ Cond.selects mX8_nearestCushion.1.cls yX8_nearestCushion yX8_nearestCushion ∈ AL := ⟨w4_40, w4_41, w4_42⟩
theorem w4_44 : Cond.methodLink RX8 165 yX6_cushionNear ∈ AL := AL_in (T4 (List.mem_of_getElem? (i := 44) rfl)) rfl
theorem w4_45 : Cond.instanceMethod yX6_cushionNear ∈ AL := AL_in (T4 (List.mem_of_getElem? (i := 45) rfl)) rfl
theorem w4_46 : Cond.selects RX6 yX6_cushionNear yX6_cushionNear ∈ AL := AL_in (T4 (List.mem_of_getElem? (i := 46) rfl)) rfl
theorem kX8_165 : Cond.methodLink RX8 165 yX6_cushionNear ∈ AL ∧ Cond.instanceMethod yX6_cushionNear ∈ AL ∧ Cond.selects mX6_cushionNear.1.cls yX6_cushionNear yX6_cushionNear ∈ AL := ⟨w4_44, w4_45, w4_46⟩
theorem w4_48 : Cond.methodLink RL 239 yL_addTrain ∈ AL := AL_in (T4 (List.mem_of_getElem? (i := 48) rfl)) rfl
theorem w4_49 : Cond.static yL_addTrain ∈ AL := AL_in (T4 (List.mem_of_getElem? (i := 49) rfl)) rfl
theorem kL_239 : Cond.methodLink RL 239 yL_addTrain ∈ AL ∧ Cond.static yL_addTrain ∈ AL := ⟨w4_48, w4_49⟩
theorem w4_51 : Cond.methodLink RL 78 yX8_addTrain ∈ AL := AL_in (T4 (List.mem_of_getElem? (i := 51) rfl)) rfl
theorem w4_52 : Cond.instanceMethod yX8_addTrain ∈ AL := AL_in (T4 (List.mem_of_getElem? (i := 52) rfl)) rfl
theorem w4_53 : Cond.selects RX8 yX8_addTrain yX8_addTrain ∈ AL := AL_in (T4 (List.mem_of_getElem? (i := 53) rfl)) rfl
theorem kL_78 : Cond.methodLink RL 78 yX8_addTrain ∈ AL ∧ Cond.instanceMethod yX8_addTrain ∈ AL ∧ Cond.selects mX8_addTrain.1.cls yX8_addTrain yX8_addTrain ∈ AL := ⟨w4_51, w4_52, w4_53⟩
theorem w4_55 : Cond.methodLink RX8 168 yX4_placeTrain ∈ AL := AL_in (T4 (List.mem_of_getElem? (i := 55) rfl)) rfl
theorem w4_56 : Cond.instanceMethod yX4_placeTrain ∈ AL := AL_in (T4 (List.mem_of_getElem? (i := 56) rfl)) rfl
theorem w4_57 : Cond.selects RX4 yX4_placeTrain yX4_placeTrain ∈ AL := AL_in (T4 (List.mem_of_getElem? (i := 57) rfl)) rfl
theorem kX8_168 : Cond.methodLink RX8 168 yX4_placeTrain ∈ AL ∧ Cond.instanceMethod yX4_placeTrain ∈ AL ∧ Cond.selects mX4_placeTrain.1.cls yX4_placeTrain yX4_placeTrain ∈ AL := ⟨w4_55, w4_56, w4_57⟩
theorem w4_59 : Cond.methodLink RL 242 yL_setGoal ∈ AL := AL_in (T4 (List.mem_of_getElem? (i := 59) rfl)) rfl
theorem w4_60 : Cond.static yL_setGoal ∈ AL := AL_in (T4 (List.mem_of_getElem? (i := 60) rfl)) rfl
theorem kL_242 : Cond.methodLink RL 242 yL_setGoal ∈ AL ∧ Cond.static yL_setGoal ∈ AL := ⟨w4_59, w4_60⟩
theorem w4_62 : Cond.methodLink RL 81 yX8_setGoal ∈ AL := AL_in (T4 (List.mem_of_getElem? (i := 62) rfl)) rfl
theorem w4_63 : Cond.instanceMethod yX8_setGoal ∈ AL := AL_in (T4 (List.mem_of_getElem? (i := 63) rfl)) rfl
theorem w4_64 : Cond.selects RX8 yX8_setGoal yX8_setGoal ∈ AL := AL_in (T4 (List.mem_of_getElem? (i := 64) rfl)) rfl
theorem kL_81 : Cond.methodLink RL 81 yX8_setGoal ∈ AL ∧ Cond.instanceMethod yX8_setGoal ∈ AL ∧ Cond.selects mX8_setGoal.1.cls yX8_setGoal yX8_setGoal ∈ AL := ⟨w4_62, w4_63, w4_64⟩
theorem w4_66 : Cond.methodLink RX8 171 yX7_aim ∈ AL := AL_in (T4 (List.mem_of_getElem? (i := 66) rfl)) rfl
theorem w4_67 : Cond.instanceMethod yX7_aim ∈ AL := AL_in (T4 (List.mem_of_getElem? (i := 67) rfl)) rfl
theorem w4_68 : Cond.selects RX7 yX7_aim yX7_aim ∈ AL := AL_in (T4 (List.mem_of_getElem? (i := 68) rfl)) rfl
theorem kX8_171 : Cond.methodLink RX8 171 yX7_aim ∈ AL ∧ Cond.instanceMethod yX7_aim ∈ AL ∧ Cond.selects mX7_aim.1.cls yX7_aim yX7_aim ∈ AL := ⟨w4_66, w4_67, w4_68⟩
theorem w4_70 : Cond.methodLink RX7 25 yX4_isTrain ∈ AL := AL_in (T4 (List.mem_of_getElem? (i := 70) rfl)) rfl
theorem kX7_25 : Cond.methodLink RX7 25 yX4_isTrain ∈ AL ∧ Cond.instanceMethod yX4_isTrain ∈ AL ∧ Cond.selects mX4_isTrain.1.cls yX4_isTrain yX4_isTrain ∈ AL := ⟨w4_70, w4_32, w4_33⟩
theorem w4_71 : Cond.methodLink RX7 31 yX4_isBlock ∈ AL := AL_in (T4 (List.mem_of_getElem? (i := 71) rfl)) rfl
theorem kX7_31 : Cond.methodLink RX7 31 yX4_isBlock ∈ AL ∧ Cond.instanceMethod yX4_isBlock ∈ AL ∧ Cond.selects mX4_isBlock.1.cls yX4_isBlock yX4_isBlock ∈ AL := ⟨w4_71, w3_125, w3_126⟩
theorem w4_72 : Cond.methodLink RX7 45 yX6_measureByNearest ∈ AL := AL_in (T4 (List.mem_of_getElem? (i := 72) rfl)) rfl
theorem kX7_45 : Cond.methodLink RX7 45 yX6_measureByNearest ∈ AL ∧ Cond.instanceMethod yX6_measureByNearest ∈ AL ∧ Cond.selects mX6_measureByNearest.1.cls yX6_measureByNearest yX6_measureByNearest ∈ AL := ⟨w4_72, w2_77, w2_78⟩
theorem w4_73 : Cond.methodLink RL 245 yL_clearGoal ∈ AL := AL_in (T4 (List.mem_of_getElem? (i := 73) rfl)) rfl
theorem w4_74 : Cond.static yL_clearGoal ∈ AL := AL_in (T4 (List.mem_of_getElem? (i := 74) rfl)) rfl
theorem kL_245 : Cond.methodLink RL 245 yL_clearGoal ∈ AL ∧ Cond.static yL_clearGoal ∈ AL := ⟨w4_73, w4_74⟩
theorem w4_76 : Cond.methodLink RL 84 yX8_clearGoal ∈ AL := AL_in (T4 (List.mem_of_getElem? (i := 76) rfl)) rfl
theorem w4_77 : Cond.instanceMethod yX8_clearGoal ∈ AL := AL_in (T4 (List.mem_of_getElem? (i := 77) rfl)) rfl
theorem w4_78 : Cond.selects RX8 yX8_clearGoal yX8_clearGoal ∈ AL := AL_in (T4 (List.mem_of_getElem? (i := 78) rfl)) rfl
theorem kL_84 : Cond.methodLink RL 84 yX8_clearGoal ∈ AL ∧ Cond.instanceMethod yX8_clearGoal ∈ AL ∧ Cond.selects mX8_clearGoal.1.cls yX8_clearGoal yX8_clearGoal ∈ AL := ⟨w4_76, w4_77, w4_78⟩
theorem w4_80 : Cond.methodLink RX8 175 yX4_dropGoal ∈ AL := AL_in (T4 (List.mem_of_getElem? (i := 80) rfl)) rfl
theorem w4_81 : Cond.instanceMethod yX4_dropGoal ∈ AL := AL_in (T4 (List.mem_of_getElem? (i := 81) rfl)) rfl
theorem w4_82 : Cond.selects RX4 yX4_dropGoal yX4_dropGoal ∈ AL := AL_in (T4 (List.mem_of_getElem? (i := 82) rfl)) rfl
theorem kX8_175 : Cond.methodLink RX8 175 yX4_dropGoal ∈ AL ∧ Cond.instanceMethod yX4_dropGoal ∈ AL ∧ Cond.selects mX4_dropGoal.1.cls yX4_dropGoal yX4_dropGoal ∈ AL := ⟨w4_80, w4_81, w4_82⟩
theorem w4_84 : Cond.methodLink RX4 91 yX4_isTrain ∈ AL := AL_in (T4 (List.mem_of_getElem? (i := 84) rfl)) rfl
theorem kX4_91 : Cond.methodLink RX4 91 yX4_isTrain ∈ AL ∧ Cond.instanceMethod yX4_isTrain ∈ AL ∧ Cond.selects mX4_isTrain.1.cls yX4_isTrain yX4_isTrain ∈ AL := ⟨w4_84, w4_32, w4_33⟩
theorem w4_85 : Cond.methodLink RL 248 yL_reserve ∈ AL := AL_in (T4 (List.mem_of_getElem? (i := 85) rfl)) rfl
theorem w4_86 : Cond.static yL_reserve ∈ AL := AL_in (T4 (List.mem_of_getElem? (i := 86) rfl)) rfl
theorem kL_248 : Cond.methodLink RL 248 yL_reserve ∈ AL ∧ Cond.static yL_reserve ∈ AL := ⟨w4_85, w4_86⟩
theorem w4_88 : Cond.methodLink RL 87 yX8_reserve ∈ AL := AL_in (T4 (List.mem_of_getElem? (i := 88) rfl)) rfl
theorem w4_89 : Cond.instanceMethod yX8_reserve ∈ AL := AL_in (T4 (List.mem_of_getElem? (i := 89) rfl)) rfl
theorem w4_90 : Cond.selects RX8 yX8_reserve yX8_reserve ∈ AL := AL_in (T4 (List.mem_of_getElem? (i := 90) rfl)) rfl
theorem kL_87 : Cond.methodLink RL 87 yX8_reserve ∈ AL ∧ Cond.instanceMethod yX8_reserve ∈ AL ∧ Cond.selects mX8_reserve.1.cls yX8_reserve yX8_reserve ∈ AL := ⟨w4_88, w4_89, w4_90⟩
theorem w4_92 : Cond.methodLink RX8 178 yX4_hold ∈ AL := AL_in (T4 (List.mem_of_getElem? (i := 92) rfl)) rfl
theorem w4_93 : Cond.instanceMethod yX4_hold ∈ AL := AL_in (T4 (List.mem_of_getElem? (i := 93) rfl)) rfl
theorem w4_94 : Cond.selects RX4 yX4_hold yX4_hold ∈ AL := AL_in (T4 (List.mem_of_getElem? (i := 94) rfl)) rfl
theorem kX8_178 : Cond.methodLink RX8 178 yX4_hold ∈ AL ∧ Cond.instanceMethod yX4_hold ∈ AL ∧ Cond.selects mX4_hold.1.cls yX4_hold yX4_hold ∈ AL := ⟨w4_92, w4_93, w4_94⟩
theorem w4_96 : Cond.methodLink RX4 94 yX4_countHolds ∈ AL := AL_in (T4 (List.mem_of_getElem? (i := 96) rfl)) rfl
theorem w4_98 : Cond.instanceMethod yX4_countHolds ∈ AL := AL_in (T4 (List.mem_of_getElem? (i := 98) rfl)) rfl
theorem w0_9 : Cond.selects RX4 yX4_countHolds yX4_countHolds ∈ AL := AL_in (T0 (List.mem_of_getElem? (i := 9) rfl)) rfl
theorem kX4_94 : Cond.methodLink RX4 94 yX4_countHolds ∈ AL ∧ Cond.instanceMethod yX4_countHolds ∈ AL ∧ Cond.selects mX4_countHolds.1.cls yX4_countHolds yX4_countHolds ∈ AL := ⟨w4_96, w4_98, w0_9⟩
theorem w4_100 : Cond.methodLink RL 251 yL_cancelReservation ∈ AL := AL_in (T4 (List.mem_of_getElem? (i := 100) rfl)) rfl
theorem w4_101 : Cond.static yL_cancelReservation ∈ AL := AL_in (T4 (List.mem_of_getElem? (i := 101) rfl)) rfl
theorem kL_251 : Cond.methodLink RL 251 yL_cancelReservation ∈ AL ∧ Cond.static yL_cancelReservation ∈ AL := ⟨w4_100, w4_101⟩
theorem w4_103 : Cond.methodLink RL 90 yX8_cancelReservation ∈ AL := AL_in (T4 (List.mem_of_getElem? (i := 103) rfl)) rfl
theorem w4_104 : Cond.instanceMethod yX8_cancelReservation ∈ AL := AL_in (T4 (List.mem_of_getElem? (i := 104) rfl)) rfl
theorem w4_105 : Cond.selects RX8 yX8_cancelReservation yX8_cancelReservation ∈ AL := AL_in (T4 (List.mem_of_getElem? (i := 105) rfl)) rfl
theorem kL_90 : Cond.methodLink RL 90 yX8_cancelReservation ∈ AL ∧ Cond.instanceMethod yX8_cancelReservation ∈ AL ∧ Cond.selects mX8_cancelReservation.1.cls yX8_cancelReservation yX8_cancelReservation ∈ AL := ⟨w4_103, w4_104, w4_105⟩
theorem w4_107 : Cond.methodLink RX8 181 yX4_release ∈ AL := AL_in (T4 (List.mem_of_getElem? (i := 107) rfl)) rfl
theorem w4_108 : Cond.instanceMethod yX4_release ∈ AL := AL_in (T4 (List.mem_of_getElem? (i := 108) rfl)) rfl
theorem w4_109 : Cond.selects RX4 yX4_release yX4_release ∈ AL := AL_in (T4 (List.mem_of_getElem? (i := 109) rfl)) rfl
theorem kX8_181 : Cond.methodLink RX8 181 yX4_release ∈ AL ∧ Cond.instanceMethod yX4_release ∈ AL ∧ Cond.selects mX4_release.1.cls yX4_release yX4_release ∈ AL := ⟨w4_107, w4_108, w4_109⟩
theorem w4_111 : Cond.methodLink RL 254 yL_rescue ∈ AL := AL_in (T4 (List.mem_of_getElem? (i := 111) rfl)) rfl
theorem w4_112 : Cond.static yL_rescue ∈ AL := AL_in (T4 (List.mem_of_getElem? (i := 112) rfl)) rfl
theorem kL_254 : Cond.methodLink RL 254 yL_rescue ∈ AL ∧ Cond.static yL_rescue ∈ AL := ⟨w4_111, w4_112⟩
theorem w4_114 : Cond.methodLink RL 93 yX8_rescue ∈ AL := AL_in (T4 (List.mem_of_getElem? (i := 114) rfl)) rfl
theorem w4_115 : Cond.instanceMethod yX8_rescue ∈ AL := AL_in (T4 (List.mem_of_getElem? (i := 115) rfl)) rfl
theorem w4_116 : Cond.selects RX8 yX8_rescue yX8_rescue ∈ AL := AL_in (T4 (List.mem_of_getElem? (i := 116) rfl)) rfl
theorem kL_93 : Cond.methodLink RL 93 yX8_rescue ∈ AL ∧ Cond.instanceMethod yX8_rescue ∈ AL ∧ Cond.selects mX8_rescue.1.cls yX8_rescue yX8_rescue ∈ AL := ⟨w4_114, w4_115, w4_116⟩
theorem w4_118 : Cond.methodLink RX8 184 yX4_rerail ∈ AL := AL_in (T4 (List.mem_of_getElem? (i := 118) rfl)) rfl
theorem w4_119 : Cond.instanceMethod yX4_rerail ∈ AL := AL_in (T4 (List.mem_of_getElem? (i := 119) rfl)) rfl
theorem w4_120 : Cond.selects RX4 yX4_rerail yX4_rerail ∈ AL := AL_in (T4 (List.mem_of_getElem? (i := 120) rfl)) rfl
theorem kX8_184 : Cond.methodLink RX8 184 yX4_rerail ∈ AL ∧ Cond.instanceMethod yX4_rerail ∈ AL ∧ Cond.selects mX4_rerail.1.cls yX4_rerail yX4_rerail ∈ AL := ⟨w4_118, w4_119, w4_120⟩
theorem w4_122 : Cond.methodLink RL 261 yL_blockOf ∈ AL := AL_in (T4 (List.mem_of_getElem? (i := 122) rfl)) rfl
theorem w4_123 : Cond.static yL_blockOf ∈ AL := AL_in (T4 (List.mem_of_getElem? (i := 123) rfl)) rfl
theorem kL_261 : Cond.methodLink RL 261 yL_blockOf ∈ AL ∧ Cond.static yL_blockOf ∈ AL := ⟨w4_122, w4_123⟩
theorem w4_125 : Cond.methodLink RL 96 yX8_blockOf ∈ AL := AL_in (T4 (List.mem_of_getElem? (i := 125) rfl)) rfl
theorem w4_126 : Cond.instanceMethod yX8_blockOf ∈ AL := AL_in (T4 (List.mem_of_getElem? (i := 126) rfl)) rfl
theorem w4_127 : Cond.selects RX8 yX8_blockOf yX8_blockOf ∈ AL := AL_in (T4 (List.mem_of_getElem? (i := 127) rfl)) rfl
theorem kL_96 : Cond.methodLink RL 96 yX8_blockOf ∈ AL ∧ Cond.instanceMethod yX8_blockOf ∈ AL ∧ Cond.selects mX8_blockOf.1.cls yX8_blockOf yX8_blockOf ∈ AL := ⟨w4_125, w4_126, w4_127⟩
theorem w4_129 : Cond.methodLink RL 264 yL_priority ∈ AL := AL_in (T4 (List.mem_of_getElem? (i := 129) rfl)) rfl
theorem w4_130 : Cond.static yL_priority ∈ AL := AL_in (T4 (List.mem_of_getElem? (i := 130) rfl)) rfl
theorem kL_264 : Cond.methodLink RL 264 yL_priority ∈ AL ∧ Cond.static yL_priority ∈ AL := ⟨w4_129, w4_130⟩
theorem w4_132 : Cond.methodLink RL 99 yX8_priority ∈ AL := AL_in (T4 (List.mem_of_getElem? (i := 132) rfl)) rfl
theorem w4_133 : Cond.instanceMethod yX8_priority ∈ AL := AL_in (T4 (List.mem_of_getElem? (i := 133) rfl)) rfl
theorem w4_134 : Cond.selects RX8 yX8_priority yX8_priority ∈ AL := AL_in (T4 (List.mem_of_getElem? (i := 134) rfl)) rfl
theorem kL_99 : Cond.methodLink RL 99 yX8_priority ∈ AL ∧ Cond.instanceMethod yX8_priority ∈ AL ∧ Cond.selects mX8_priority.1.cls yX8_priority yX8_priority ∈ AL := ⟨w4_132, w4_133, w4_134⟩
theorem w4_136 : Cond.methodLink RL 267 yL_remainingTicks ∈ AL := AL_in (T4 (List.mem_of_getElem? (i := 136) rfl)) rfl
theorem w4_137 : Cond.static yL_remainingTicks ∈ AL := AL_in (T4 (List.mem_of_getElem? (i := 137) rfl)) rfl
theorem kL_267 : Cond.methodLink RL 267 yL_remainingTicks ∈ AL ∧ Cond.static yL_remainingTicks ∈ AL := ⟨w4_136, w4_137⟩
theorem w4_139 : Cond.methodLink RL 102 yX8_remainingTicks ∈ AL := AL_in (T4 (List.mem_of_getElem? (i := 139) rfl)) rfl
theorem w4_140 : Cond.instanceMethod yX8_remainingTicks ∈ AL := AL_in (T4 (List.mem_of_getElem? (i := 140) rfl)) rfl
theorem w4_141 : Cond.selects RX8 yX8_remainingTicks yX8_remainingTicks ∈ AL := AL_in (T4 (List.mem_of_getElem? (i := 141) rfl)) rfl
theorem kL_102 : Cond.methodLink RL 102 yX8_remainingTicks ∈ AL ∧ Cond.instanceMethod yX8_remainingTicks ∈ AL ∧ Cond.selects mX8_remainingTicks.1.cls yX8_remainingTicks yX8_remainingTicks ∈ AL := ⟨w4_139, w4_140, w4_141⟩
theorem w4_143 : Cond.methodLink RL 270 yL_goal ∈ AL := AL_in (T4 (List.mem_of_getElem? (i := 143) rfl)) rfl
theorem w4_144 : Cond.static yL_goal ∈ AL := AL_in (T4 (List.mem_of_getElem? (i := 144) rfl)) rfl
theorem kL_270 : Cond.methodLink RL 270 yL_goal ∈ AL ∧ Cond.static yL_goal ∈ AL := ⟨w4_143, w4_144⟩
theorem w4_146 : Cond.methodLink RL 105 yX8_goal ∈ AL := AL_in (T4 (List.mem_of_getElem? (i := 146) rfl)) rfl
theorem w4_147 : Cond.instanceMethod yX8_goal ∈ AL := AL_in (T4 (List.mem_of_getElem? (i := 147) rfl)) rfl
theorem w4_148 : Cond.selects RX8 yX8_goal yX8_goal ∈ AL := AL_in (T4 (List.mem_of_getElem? (i := 148) rfl)) rfl
theorem kL_105 : Cond.methodLink RL 105 yX8_goal ∈ AL ∧ Cond.instanceMethod yX8_goal ∈ AL ∧ Cond.selects mX8_goal.1.cls yX8_goal yX8_goal ∈ AL := ⟨w4_146, w4_147, w4_148⟩
theorem w4_150 : Cond.methodLink RL 273 yL_isDerailed ∈ AL := AL_in (T4 (List.mem_of_getElem? (i := 150) rfl)) rfl
theorem w4_151 : Cond.static yL_isDerailed ∈ AL := AL_in (T4 (List.mem_of_getElem? (i := 151) rfl)) rfl
theorem kL_273 : Cond.methodLink RL 273 yL_isDerailed ∈ AL ∧ Cond.static yL_isDerailed ∈ AL := ⟨w4_150, w4_151⟩
theorem w4_153 : Cond.methodLink RL 108 yX8_isDerailed ∈ AL := AL_in (T4 (List.mem_of_getElem? (i := 153) rfl)) rfl
theorem w4_154 : Cond.instanceMethod yX8_isDerailed ∈ AL := AL_in (T4 (List.mem_of_getElem? (i := 154) rfl)) rfl
theorem w4_155 : Cond.selects RX8 yX8_isDerailed yX8_isDerailed ∈ AL := AL_in (T4 (List.mem_of_getElem? (i := 155) rfl)) rfl
theorem kL_108 : Cond.methodLink RL 108 yX8_isDerailed ∈ AL ∧ Cond.instanceMethod yX8_isDerailed ∈ AL ∧ Cond.selects mX8_isDerailed.1.cls yX8_isDerailed yX8_isDerailed ∈ AL := ⟨w4_153, w4_154, w4_155⟩
theorem w4_157 : Cond.methodLink RL 276 yL_waits ∈ AL := AL_in (T4 (List.mem_of_getElem? (i := 157) rfl)) rfl
theorem w4_158 : Cond.static yL_waits ∈ AL := AL_in (T4 (List.mem_of_getElem? (i := 158) rfl)) rfl
theorem kL_276 : Cond.methodLink RL 276 yL_waits ∈ AL ∧ Cond.static yL_waits ∈ AL := ⟨w4_157, w4_158⟩
theorem w4_160 : Cond.methodLink RL 111 yX8_waits ∈ AL := AL_in (T4 (List.mem_of_getElem? (i := 160) rfl)) rfl
theorem w4_161 : Cond.instanceMethod yX8_waits ∈ AL := AL_in (T4 (List.mem_of_getElem? (i := 161) rfl)) rfl
theorem w4_162 : Cond.selects RX8 yX8_waits yX8_waits ∈ AL := AL_in (T4 (List.mem_of_getElem? (i := 162) rfl)) rfl
theorem kL_111 : Cond.methodLink RL 111 yX8_waits ∈ AL ∧ Cond.instanceMethod yX8_waits ∈ AL ∧ Cond.selects mX8_waits.1.cls yX8_waits yX8_waits ∈ AL := ⟨w4_160, w4_161, w4_162⟩
theorem w4_164 : Cond.methodLink RL 279 yL_trainByPriority ∈ AL := AL_in (T4 (List.mem_of_getElem? (i := 164) rfl)) rfl
theorem w4_165 : Cond.static yL_trainByPriority ∈ AL := AL_in (T4 (List.mem_of_getElem? (i := 165) rfl)) rfl
theorem kL_279 : Cond.methodLink RL 279 yL_trainByPriority ∈ AL ∧ Cond.static yL_trainByPriority ∈ AL := ⟨w4_164, w4_165⟩
theorem w4_167 : Cond.methodLink RL 114 yX8_trainByPriority ∈ AL := AL_in (T4 (List.mem_of_getElem? (i := 167) rfl)) rfl
theorem w4_168 : Cond.instanceMethod yX8_trainByPriority ∈ AL := AL_in (T4 (List.mem_of_getElem? (i := 168) rfl)) rfl
theorem w4_169 : Cond.selects RX8 yX8_trainByPriority yX8_trainByPriority ∈ AL := AL_in (T4 (List.mem_of_getElem? (i := 169) rfl)) rfl
theorem kL_114 : Cond.methodLink RL 114 yX8_trainByPriority ∈ AL ∧ Cond.instanceMethod yX8_trainByPriority ∈ AL ∧ Cond.selects mX8_trainByPriority.1.cls yX8_trainByPriority yX8_trainByPriority ∈ AL := ⟨w4_167, w4_168, w4_169⟩
theorem w4_171 : Cond.methodLink RX8 208 yX4_trainAtRank ∈ AL := AL_in (T4 (List.mem_of_getElem? (i := 171) rfl)) rfl
theorem w4_172 : Cond.instanceMethod yX4_trainAtRank ∈ AL := AL_in (T4 (List.mem_of_getElem? (i := 172) rfl)) rfl
theorem w4_173 : Cond.selects RX4 yX4_trainAtRank yX4_trainAtRank ∈ AL := AL_in (T4 (List.mem_of_getElem? (i := 173) rfl)) rfl
theorem kX8_208 : Cond.methodLink RX8 208 yX4_trainAtRank ∈ AL ∧ Cond.instanceMethod yX4_trainAtRank ∈ AL ∧ Cond.selects mX4_trainAtRank.1.cls yX4_trainAtRank yX4_trainAtRank ∈ AL := ⟨w4_171, w4_172, w4_173⟩
theorem w4_175 : Cond.methodLink RL 282 yL_blockedBy ∈ AL := AL_in (T4 (List.mem_of_getElem? (i := 175) rfl)) rfl
theorem w4_176 : Cond.static yL_blockedBy ∈ AL := AL_in (T4 (List.mem_of_getElem? (i := 176) rfl)) rfl
theorem kL_282 : Cond.methodLink RL 282 yL_blockedBy ∈ AL ∧ Cond.static yL_blockedBy ∈ AL := ⟨w4_175, w4_176⟩
theorem w4_178 : Cond.methodLink RL 117 yX8_blockedBy ∈ AL := AL_in (T4 (List.mem_of_getElem? (i := 178) rfl)) rfl
theorem w4_179 : Cond.instanceMethod yX8_blockedBy ∈ AL := AL_in (T4 (List.mem_of_getElem? (i := 179) rfl)) rfl
theorem w4_180 : Cond.selects RX8 yX8_blockedBy yX8_blockedBy ∈ AL := AL_in (T4 (List.mem_of_getElem? (i := 180) rfl)) rfl
theorem kL_117 : Cond.methodLink RL 117 yX8_blockedBy ∈ AL ∧ Cond.instanceMethod yX8_blockedBy ∈ AL ∧ Cond.selects mX8_blockedBy.1.cls yX8_blockedBy yX8_blockedBy ∈ AL := ⟨w4_178, w4_179, w4_180⟩
theorem w4_182 : Cond.methodLink RX8 211 yX7_blockerOf ∈ AL := AL_in (T4 (List.mem_of_getElem? (i := 182) rfl)) rfl
theorem kX8_211 : Cond.methodLink RX8 211 yX7_blockerOf ∈ AL ∧ Cond.instanceMethod yX7_blockerOf ∈ AL ∧ Cond.selects mX7_blockerOf.1.cls yX7_blockerOf yX7_blockerOf ∈ AL := ⟨w4_182, w2_68, w2_69⟩
theorem w4_183 : Cond.methodLink RL 293 yL_passTicks ∈ AL := AL_in (T4 (List.mem_of_getElem? (i := 183) rfl)) rfl
theorem w4_184 : Cond.static yL_passTicks ∈ AL := AL_in (T4 (List.mem_of_getElem? (i := 184) rfl)) rfl
theorem kL_293 : Cond.methodLink RL 293 yL_passTicks ∈ AL ∧ Cond.static yL_passTicks ∈ AL := ⟨w4_183, w4_184⟩
theorem w4_186 : Cond.methodLink RL 120 yX8_passTicks ∈ AL := AL_in (T4 (List.mem_of_getElem? (i := 186) rfl)) rfl
theorem w4_187 : Cond.instanceMethod yX8_passTicks ∈ AL := AL_in (T4 (List.mem_of_getElem? (i := 187) rfl)) rfl
theorem w4_188 : Cond.selects RX8 yX8_passTicks yX8_passTicks ∈ AL := AL_in (T4 (List.mem_of_getElem? (i := 188) rfl)) rfl
theorem kL_120 : Cond.methodLink RL 120 yX8_passTicks ∈ AL ∧ Cond.instanceMethod yX8_passTicks ∈ AL ∧ Cond.selects mX8_passTicks.1.cls yX8_passTicks yX8_passTicks ∈ AL := ⟨w4_186, w4_187, w4_188⟩
theorem w4_190 : Cond.methodLink RX8 220 yX7_letPass ∈ AL := AL_in (T4 (List.mem_of_getElem? (i := 190) rfl)) rfl
theorem w4_191 : Cond.instanceMethod yX7_letPass ∈ AL := AL_in (T4 (List.mem_of_getElem? (i := 191) rfl)) rfl
theorem w4_192 : Cond.selects RX7 yX7_letPass yX7_letPass ∈ AL := AL_in (T4 (List.mem_of_getElem? (i := 192) rfl)) rfl
theorem kX8_220 : Cond.methodLink RX8 220 yX7_letPass ∈ AL ∧ Cond.instanceMethod yX7_letPass ∈ AL ∧ Cond.selects mX7_letPass.1.cls yX7_letPass yX7_letPass ∈ AL := ⟨w4_190, w4_191, w4_192⟩
theorem w4_194 : Cond.methodLink RX7 61 yX4_trainAtRank ∈ AL := AL_in (T4 (List.mem_of_getElem? (i := 194) rfl)) rfl
theorem kX7_61 : Cond.methodLink RX7 61 yX4_trainAtRank ∈ AL ∧ Cond.instanceMethod yX4_trainAtRank ∈ AL ∧ Cond.selects mX4_trainAtRank.1.cls yX4_trainAtRank yX4_trainAtRank ∈ AL := ⟨w4_194, w4_172, w4_173⟩
theorem w4_195 : Cond.methodLink RX7 65 yX7_consider ∈ AL := AL_in (T4 (List.mem_of_getElem? (i := 195) rfl)) rfl
theorem w4_197 : Cond.instanceMethod yX7_consider ∈ AL := AL_in (T4 (List.mem_of_getElem? (i := 197) rfl)) rfl
theorem w0_10 : Cond.selects RX7 yX7_consider yX7_consider ∈ AL := AL_in (T0 (List.mem_of_getElem? (i := 10) rfl)) rfl
theorem kX7_65 : Cond.methodLink RX7 65 yX7_consider ∈ AL ∧ Cond.instanceMethod yX7_consider ∈ AL ∧ Cond.selects mX7_consider.1.cls yX7_consider yX7_consider ∈ AL := ⟨w4_195, w4_197, w0_10⟩
theorem w4_199 : Cond.methodLink RX7 81 yX4_letsIn ∈ AL := AL_in (T4 (List.mem_of_getElem? (i := 199) rfl)) rfl
theorem w4_200 : Cond.instanceMethod yX4_letsIn ∈ AL := AL_in (T4 (List.mem_of_getElem? (i := 200) rfl)) rfl
theorem w4_201 : Cond.selects RX4 yX4_letsIn yX4_letsIn ∈ AL := AL_in (T4 (List.mem_of_getElem? (i := 201) rfl)) rfl
theorem kX7_81 : Cond.methodLink RX7 81 yX4_letsIn ∈ AL ∧ Cond.instanceMethod yX4_letsIn ∈ AL ∧ Cond.selects mX4_letsIn.1.cls yX4_letsIn yX4_letsIn ∈ AL := ⟨w4_199, w4_200, w4_201⟩
theorem w4_203 : Cond.methodLink RX7 84 yX4_moveTrain ∈ AL := AL_in (T4 (List.mem_of_getElem? (i := 203) rfl)) rfl
theorem w4_204 : Cond.instanceMethod yX4_moveTrain ∈ AL := AL_in (T4 (List.mem_of_getElem? (i := 204) rfl)) rfl
theorem w4_205 : Cond.selects RX4 yX4_moveTrain yX4_moveTrain ∈ AL := AL_in (T4 (List.mem_of_getElem? (i := 205) rfl)) rfl
theorem kX7_84 : Cond.methodLink RX7 84 yX4_moveTrain ∈ AL ∧ Cond.instanceMethod yX4_moveTrain ∈ AL ∧ Cond.selects mX4_moveTrain.1.cls yX4_moveTrain yX4_moveTrain ∈ AL := ⟨w4_203, w4_204, w4_205⟩
theorem w4_207 : Cond.methodLink RL 304 yL_ticksUntilArrival ∈ AL := AL_in (T4 (List.mem_of_getElem? (i := 207) rfl)) rfl
theorem w4_208 : Cond.static yL_ticksUntilArrival ∈ AL := AL_in (T4 (List.mem_of_getElem? (i := 208) rfl)) rfl
theorem kL_304 : Cond.methodLink RL 304 yL_ticksUntilArrival ∈ AL ∧ Cond.static yL_ticksUntilArrival ∈ AL := ⟨w4_207, w4_208⟩
theorem w4_210 : Cond.methodLink RL 123 yX8_ticksUntilArrival ∈ AL := AL_in (T4 (List.mem_of_getElem? (i := 210) rfl)) rfl
theorem w4_211 : Cond.instanceMethod yX8_ticksUntilArrival ∈ AL := AL_in (T4 (List.mem_of_getElem? (i := 211) rfl)) rfl
theorem w4_212 : Cond.selects RX8 yX8_ticksUntilArrival yX8_ticksUntilArrival ∈ AL := AL_in (T4 (List.mem_of_getElem? (i := 212) rfl)) rfl
theorem kL_123 : Cond.methodLink RL 123 yX8_ticksUntilArrival ∈ AL ∧ Cond.instanceMethod yX8_ticksUntilArrival ∈ AL ∧ Cond.selects mX8_ticksUntilArrival.1.cls yX8_ticksUntilArrival yX8_ticksUntilArrival ∈ AL := ⟨w4_210, w4_211, w4_212⟩
theorem w4_215 : Cond.methodLink RX8 239 yX7_ticksToGoal ∈ AL := AL_in (T4 (List.mem_of_getElem? (i := 215) rfl)) rfl
theorem w4_216 : Cond.instanceMethod yX7_ticksToGoal ∈ AL := AL_in (T4 (List.mem_of_getElem? (i := 216) rfl)) rfl
theorem w4_217 : Cond.selects RX7 yX7_ticksToGoal yX7_ticksToGoal ∈ AL := AL_in (T4 (List.mem_of_getElem? (i := 217) rfl)) rfl
theorem kX8_239 : Cond.methodLink RX8 239 yX7_ticksToGoal ∈ AL ∧ Cond.instanceMethod yX7_ticksToGoal ∈ AL ∧ Cond.selects mX7_ticksToGoal.1.cls yX7_ticksToGoal yX7_ticksToGoal ∈ AL := ⟨w4_215, w4_216, w4_217⟩
theorem w4_219 : Cond.methodLink RX7 91 yX7_letPass ∈ AL := AL_in (T4 (List.mem_of_getElem? (i := 219) rfl)) rfl
theorem kX7_91 : Cond.methodLink RX7 91 yX7_letPass ∈ AL ∧ Cond.instanceMethod yX7_letPass ∈ AL ∧ Cond.selects mX7_letPass.1.cls yX7_letPass yX7_letPass ∈ AL := ⟨w4_219, w4_191, w4_192⟩
theorem w4_220 : Cond.methodLink RL 307 yL_meanWaits ∈ AL := AL_in (T4 (List.mem_of_getElem? (i := 220) rfl)) rfl
theorem w4_221 : Cond.static yL_meanWaits ∈ AL := AL_in (T4 (List.mem_of_getElem? (i := 221) rfl)) rfl
theorem kL_307 : Cond.methodLink RL 307 yL_meanWaits ∈ AL ∧ Cond.static yL_meanWaits ∈ AL := ⟨w4_220, w4_221⟩
theorem w4_237 : Cond.methodLink RL 126 yX8_meanWaits ∈ AL := AL_in (T4 (List.mem_of_getElem? (i := 237) rfl)) rfl
theorem w4_238 : Cond.instanceMethod yX8_meanWaits ∈ AL := AL_in (T4 (List.mem_of_getElem? (i := 238) rfl)) rfl
theorem w4_239 : Cond.selects RX8 yX8_meanWaits yX8_meanWaits ∈ AL := AL_in (T4 (List.mem_of_getElem? (i := 239) rfl)) rfl
theorem kL_126 : Cond.methodLink RL 126 yX8_meanWaits ∈ AL ∧ Cond.instanceMethod yX8_meanWaits ∈ AL ∧ Cond.selects mX8_meanWaits.1.cls yX8_meanWaits yX8_meanWaits ∈ AL := ⟨w4_237, w4_238, w4_239⟩
theorem w5_4 : Cond.methodLink RX8 247 yX4_allWaits ∈ AL := AL_in (T5 (List.mem_of_getElem? (i := 4) rfl)) rfl
theorem w5_5 : Cond.instanceMethod yX4_allWaits ∈ AL := AL_in (T5 (List.mem_of_getElem? (i := 5) rfl)) rfl
theorem w5_6 : Cond.selects RX4 yX4_allWaits yX4_allWaits ∈ AL := AL_in (T5 (List.mem_of_getElem? (i := 6) rfl)) rfl
theorem kX8_247 : Cond.methodLink RX8 247 yX4_allWaits ∈ AL ∧ Cond.instanceMethod yX4_allWaits ∈ AL ∧ Cond.selects mX4_allWaits.1.cls yX4_allWaits yX4_allWaits ∈ AL := ⟨w5_4, w5_5, w5_6⟩
theorem w5_8 : Cond.methodLink RL 311 yL_occupiedFraction ∈ AL := AL_in (T5 (List.mem_of_getElem? (i := 8) rfl)) rfl
theorem w5_9 : Cond.static yL_occupiedFraction ∈ AL := AL_in (T5 (List.mem_of_getElem? (i := 9) rfl)) rfl
theorem kL_311 : Cond.methodLink RL 311 yL_occupiedFraction ∈ AL ∧ Cond.static yL_occupiedFraction ∈ AL := ⟨w5_8, w5_9⟩
theorem w5_11 : Cond.methodLink RL 132 yX8_occupiedFraction ∈ AL := AL_in (T5 (List.mem_of_getElem? (i := 11) rfl)) rfl
theorem w5_12 : Cond.instanceMethod yX8_occupiedFraction ∈ AL := AL_in (T5 (List.mem_of_getElem? (i := 12) rfl)) rfl
theorem w5_13 : Cond.selects RX8 yX8_occupiedFraction yX8_occupiedFraction ∈ AL := AL_in (T5 (List.mem_of_getElem? (i := 13) rfl)) rfl
theorem kL_132 : Cond.methodLink RL 132 yX8_occupiedFraction ∈ AL ∧ Cond.instanceMethod yX8_occupiedFraction ∈ AL ∧ Cond.selects mX8_occupiedFraction.1.cls yX8_occupiedFraction yX8_occupiedFraction ∈ AL := ⟨w5_11, w5_12, w5_13⟩
theorem w5_16 : Cond.methodLink RL 314 yL_writeTrain ∈ AL := AL_in (T5 (List.mem_of_getElem? (i := 16) rfl)) rfl
theorem w5_17 : Cond.static yL_writeTrain ∈ AL := AL_in (T5 (List.mem_of_getElem? (i := 17) rfl)) rfl
theorem kL_314 : Cond.methodLink RL 314 yL_writeTrain ∈ AL ∧ Cond.static yL_writeTrain ∈ AL := ⟨w5_16, w5_17⟩
theorem w5_19 : Cond.methodLink RL 136 yX8_writeTrain ∈ AL := AL_in (T5 (List.mem_of_getElem? (i := 19) rfl)) rfl
theorem w5_20 : Cond.instanceMethod yX8_writeTrain ∈ AL := AL_in (T5 (List.mem_of_getElem? (i := 20) rfl)) rfl
theorem w5_21 : Cond.selects RX8 yX8_writeTrain yX8_writeTrain ∈ AL := AL_in (T5 (List.mem_of_getElem? (i := 21) rfl)) rfl
theorem kL_136 : Cond.methodLink RL 136 yX8_writeTrain ∈ AL ∧ Cond.instanceMethod yX8_writeTrain ∈ AL ∧ Cond.selects mX8_writeTrain.1.cls yX8_writeTrain yX8_writeTrain ∈ AL := ⟨w5_19, w5_20, w5_21⟩
theorem w5_23 : Cond.methodLink RX8 256 yX5_putMarked ∈ AL := AL_in (T5 (List.mem_of_getElem? (i := 23) rfl)) rfl
theorem w5_24 : Cond.instanceMethod yX5_putMarked ∈ AL := AL_in (T5 (List.mem_of_getElem? (i := 24) rfl)) rfl
theorem w5_25 : Cond.selects RX5 yX5_putMarked yX5_putMarked ∈ AL := AL_in (T5 (List.mem_of_getElem? (i := 25) rfl)) rfl
theorem kX8_256 : Cond.methodLink RX8 256 yX5_putMarked ∈ AL ∧ Cond.instanceMethod yX5_putMarked ∈ AL ∧ Cond.selects mX5_putMarked.1.cls yX5_putMarked yX5_putMarked ∈ AL := ⟨w5_23, w5_24, w5_25⟩
theorem w5_27 : Cond.methodLink RX5 19 yX5_put ∈ AL := AL_in (T5 (List.mem_of_getElem? (i := 27) rfl)) rfl
theorem kX5_19 : Cond.methodLink RX5 19 yX5_put ∈ AL ∧ Cond.instanceMethod yX5_put ∈ AL ∧ Cond.selects mX5_put.1.cls yX5_put yX5_put ∈ AL := ⟨w5_27, w2_126, w2_127⟩
theorem w5_28 : Cond.methodLink RL 321 yL_outputCharacter ∈ AL := AL_in (T5 (List.mem_of_getElem? (i := 28) rfl)) rfl
theorem w5_29 : Cond.static yL_outputCharacter ∈ AL := AL_in (T5 (List.mem_of_getElem? (i := 29) rfl)) rfl
theorem kL_321 : Cond.methodLink RL 321 yL_outputCharacter ∈ AL ∧ Cond.static yL_outputCharacter ∈ AL := ⟨w5_28, w5_29⟩
theorem w5_31 : Cond.methodLink RL 139 yX8_outputCharacter ∈ AL := AL_in (T5 (List.mem_of_getElem? (i := 31) rfl)) rfl
theorem w5_32 : Cond.instanceMethod yX8_outputCharacter ∈ AL := AL_in (T5 (List.mem_of_getElem? (i := 32) rfl)) rfl
theorem w5_33 : Cond.selects RX8 yX8_outputCharacter yX8_outputCharacter ∈ AL := AL_in (T5 (List.mem_of_getElem? (i := 33) rfl)) rfl
theorem kL_139 : Cond.methodLink RL 139 yX8_outputCharacter ∈ AL ∧ Cond.instanceMethod yX8_outputCharacter ∈ AL ∧ Cond.selects mX8_outputCharacter.1.cls yX8_outputCharacter yX8_outputCharacter ∈ AL := ⟨w5_31, w5_32, w5_33⟩
theorem w5_36 : Cond.methodLink RL 329 yL_feed ∈ AL := AL_in (T5 (List.mem_of_getElem? (i := 36) rfl)) rfl
theorem w5_37 : Cond.static yL_feed ∈ AL := AL_in (T5 (List.mem_of_getElem? (i := 37) rfl)) rfl
theorem kL_329 : Cond.methodLink RL 329 yL_feed ∈ AL ∧ Cond.static yL_feed ∈ AL := ⟨w5_36, w5_37⟩
theorem w5_39 : Cond.methodLink RL 142 yX8_feed ∈ AL := AL_in (T5 (List.mem_of_getElem? (i := 39) rfl)) rfl
theorem w5_40 : Cond.instanceMethod yX8_feed ∈ AL := AL_in (T5 (List.mem_of_getElem? (i := 40) rfl)) rfl
theorem w5_41 : Cond.selects RX8 yX8_feed yX8_feed ∈ AL := AL_in (T5 (List.mem_of_getElem? (i := 41) rfl)) rfl
theorem kL_142 : Cond.methodLink RL 142 yX8_feed ∈ AL ∧ Cond.instanceMethod yX8_feed ∈ AL ∧ Cond.selects mX8_feed.1.cls yX8_feed yX8_feed ∈ AL := ⟨w5_39, w5_40, w5_41⟩
theorem w5_43 : Cond.methodLink RX8 280 yX2_append ∈ AL := AL_in (T5 (List.mem_of_getElem? (i := 43) rfl)) rfl
theorem w5_44 : Cond.instanceMethod yX2_append ∈ AL := AL_in (T5 (List.mem_of_getElem? (i := 44) rfl)) rfl
theorem w5_45 : Cond.selects RX2 yX2_append yX2_append ∈ AL := AL_in (T5 (List.mem_of_getElem? (i := 45) rfl)) rfl
theorem kX8_280 : Cond.methodLink RX8 280 yX2_append ∈ AL ∧ Cond.instanceMethod yX2_append ∈ AL ∧ Cond.selects mX2_append.1.cls yX2_append yX2_append ∈ AL := ⟨w5_43, w5_44, w5_45⟩
theorem w5_48 : Cond.methodLink RL 333 yL_execute ∈ AL := AL_in (T5 (List.mem_of_getElem? (i := 48) rfl)) rfl
theorem w5_49 : Cond.static yL_execute ∈ AL := AL_in (T5 (List.mem_of_getElem? (i := 49) rfl)) rfl
theorem kL_333 : Cond.methodLink RL 333 yL_execute ∈ AL ∧ Cond.static yL_execute ∈ AL := ⟨w5_48, w5_49⟩
theorem w5_51 : Cond.methodLink RL 146 yX8_execute ∈ AL := AL_in (T5 (List.mem_of_getElem? (i := 51) rfl)) rfl
theorem w5_52 : Cond.instanceMethod yX8_execute ∈ AL := AL_in (T5 (List.mem_of_getElem? (i := 52) rfl)) rfl
theorem w5_53 : Cond.selects RX8 yX8_execute yX8_execute ∈ AL := AL_in (T5 (List.mem_of_getElem? (i := 53) rfl)) rfl
theorem kL_146 : Cond.methodLink RL 146 yX8_execute ∈ AL ∧ Cond.instanceMethod yX8_execute ∈ AL ∧ Cond.selects mX8_execute.1.cls yX8_execute yX8_execute ∈ AL := ⟨w5_51, w5_52, w5_53⟩
theorem w5_55 : Cond.methodLink RX8 290 yX2_findError ∈ AL := AL_in (T5 (List.mem_of_getElem? (i := 55) rfl)) rfl
theorem w5_56 : Cond.instanceMethod yX2_findError ∈ AL := AL_in (T5 (List.mem_of_getElem? (i := 56) rfl)) rfl
theorem w5_57 : Cond.selects RX2 yX2_findError yX2_findError ∈ AL := AL_in (T5 (List.mem_of_getElem? (i := 57) rfl)) rfl
theorem kX8_290 : Cond.methodLink RX8 290 yX2_findError ∈ AL ∧ Cond.instanceMethod yX2_findError ∈ AL ∧ Cond.selects mX2_findError.1.cls yX2_findError yX2_findError ∈ AL := ⟨w5_55, w5_56, w5_57⟩
theorem w5_59 : Cond.methodLink RX2 41 yX2_rewind ∈ AL := AL_in (T5 (List.mem_of_getElem? (i := 59) rfl)) rfl
theorem w5_60 : Cond.instanceMethod yX2_rewind ∈ AL := AL_in (T5 (List.mem_of_getElem? (i := 60) rfl)) rfl
theorem w5_61 : Cond.selects RX2 yX2_rewind yX2_rewind ∈ AL := AL_in (T5 (List.mem_of_getElem? (i := 61) rfl)) rfl
theorem kX2_41 : Cond.methodLink RX2 41 yX2_rewind ∈ AL ∧ Cond.instanceMethod yX2_rewind ∈ AL ∧ Cond.selects mX2_rewind.1.cls yX2_rewind yX2_rewind ∈ AL := ⟨w5_59, w5_60, w5_61⟩
theorem w5_63 : Cond.methodLink RX2 44 yX2_readCommand ∈ AL := AL_in (T5 (List.mem_of_getElem? (i := 63) rfl)) rfl
theorem w5_64 : Cond.instanceMethod yX2_readCommand ∈ AL := AL_in (T5 (List.mem_of_getElem? (i := 64) rfl)) rfl
theorem w5_65 : Cond.selects RX2 yX2_readCommand yX2_readCommand ∈ AL := AL_in (T5 (List.mem_of_getElem? (i := 65) rfl)) rfl
theorem kX2_44 : Cond.methodLink RX2 44 yX2_readCommand ∈ AL ∧ Cond.instanceMethod yX2_readCommand ∈ AL ∧ Cond.selects mX2_readCommand.1.cls yX2_readCommand yX2_readCommand ∈ AL := ⟨w5_63, w5_64, w5_65⟩
theorem w5_69 : Cond.methodLink RX2 56 yX2_match ∈ AL := AL_in (T5 (List.mem_of_getElem? (i := 69) rfl)) rfl
theorem w5_71 : Cond.instanceMethod yX2_match ∈ AL := AL_in (T5 (List.mem_of_getElem? (i := 71) rfl)) rfl
theorem w0_11 : Cond.selects RX2 yX2_match yX2_match ∈ AL := AL_in (T0 (List.mem_of_getElem? (i := 11) rfl)) rfl
theorem kX2_56 : Cond.methodLink RX2 56 yX2_match ∈ AL ∧ Cond.instanceMethod yX2_match ∈ AL ∧ Cond.selects mX2_match.1.cls yX2_match yX2_match ∈ AL := ⟨w5_69, w5_71, w0_11⟩
theorem w5_73 : Cond.methodLink RX2 70 yJ0_length_8abf5 ∈ AL := AL_in (T5 (List.mem_of_getElem? (i := 73) rfl)) rfl
theorem w5_74 : Cond.instanceMethod yJ0_length_8abf5 ∈ AL := AL_in (T5 (List.mem_of_getElem? (i := 74) rfl)) rfl
theorem w5_75 : Cond.selects RJ0 yJ0_length_8abf5 yJ0_length_8abf5 ∈ AL := AL_in (T5 (List.mem_of_getElem? (i := 75) rfl)) rfl
theorem kX2_70 : Cond.methodLink RX2 70 yJ0_length_8abf5 ∈ AL ∧ Cond.instanceMethod yJ0_length_8abf5 ∈ AL ∧ Cond.selects mJ0_length_8abf5.1.cls yJ0_length_8abf5 yJ0_length_8abf5 ∈ AL := ⟨w5_73, w5_74, w5_75⟩
theorem w5_77 : Cond.methodLink RJ0 335 yJ0_coder_7d493 ∈ AL := AL_in (T5 (List.mem_of_getElem? (i := 77) rfl)) rfl
theorem w5_78 : Cond.instanceMethod yJ0_coder_7d493 ∈ AL := AL_in (T5 (List.mem_of_getElem? (i := 78) rfl)) rfl
theorem w5_79 : Cond.selects RJ0 yJ0_coder_7d493 yJ0_coder_7d493 ∈ AL := AL_in (T5 (List.mem_of_getElem? (i := 79) rfl)) rfl
theorem kJ0_335 : Cond.methodLink RJ0 335 yJ0_coder_7d493 ∈ AL ∧ Cond.instanceMethod yJ0_coder_7d493 ∈ AL ∧ Cond.selects mJ0_coder_7d493.1.cls yJ0_coder_7d493 yJ0_coder_7d493 ∈ AL := ⟨w5_77, w5_78, w5_79⟩
theorem w5_83 : Cond.methodLink RX2 76 yJ0_charAt_5068e ∈ AL := AL_in (T5 (List.mem_of_getElem? (i := 83) rfl)) rfl
theorem w5_84 : Cond.instanceMethod yJ0_charAt_5068e ∈ AL := AL_in (T5 (List.mem_of_getElem? (i := 84) rfl)) rfl
theorem w5_85 : Cond.selects RJ0 yJ0_charAt_5068e yJ0_charAt_5068e ∈ AL := AL_in (T5 (List.mem_of_getElem? (i := 85) rfl)) rfl
theorem kX2_76 : Cond.methodLink RX2 76 yJ0_charAt_5068e ∈ AL ∧ Cond.instanceMethod yJ0_charAt_5068e ∈ AL ∧ Cond.selects mJ0_charAt_5068e.1.cls yJ0_charAt_5068e yJ0_charAt_5068e ∈ AL := ⟨w5_83, w5_84, w5_85⟩
theorem w5_87 : Cond.methodLink RJ0 492 yJ0_isLatin1_aae02 ∈ AL := AL_in (T5 (List.mem_of_getElem? (i := 87) rfl)) rfl
theorem w5_88 : Cond.instanceMethod yJ0_isLatin1_aae02 ∈ AL := AL_in (T5 (List.mem_of_getElem? (i := 88) rfl)) rfl
theorem w5_89 : Cond.selects RJ0 yJ0_isLatin1_aae02 yJ0_isLatin1_aae02 ∈ AL := AL_in (T5 (List.mem_of_getElem? (i := 89) rfl)) rfl
theorem kJ0_492 : Cond.methodLink RJ0 492 yJ0_isLatin1_aae02 ∈ AL ∧ Cond.instanceMethod yJ0_isLatin1_aae02 ∈ AL ∧ Cond.selects mJ0_isLatin1_aae02.1.cls yJ0_isLatin1_aae02 yJ0_isLatin1_aae02 ∈ AL := ⟨w5_87, w5_88, w5_89⟩
theorem w5_91 : Cond.methodLink RJ0 495 yJ1_charAt_3b067 ∈ AL := AL_in (T5 (List.mem_of_getElem? (i := 91) rfl)) rfl
theorem w5_92 : Cond.static yJ1_charAt_3b067 ∈ AL := AL_in (T5 (List.mem_of_getElem? (i := 92) rfl)) rfl
theorem kJ0_495 : Cond.methodLink RJ0 495 yJ1_charAt_3b067 ∈ AL ∧ Cond.static yJ1_charAt_3b067 ∈ AL := ⟨w5_91, w5_92⟩
theorem w5_94 : Cond.methodLink RJ1 9 yJ0_checkIndex_df160 ∈ AL := AL_in (T5 (List.mem_of_getElem? (i := 94) rfl)) rfl
theorem w5_95 : Cond.static yJ0_checkIndex_df160 ∈ AL := AL_in (T5 (List.mem_of_getElem? (i := 95) rfl)) rfl
theorem kJ1_9 : Cond.methodLink RJ1 9 yJ0_checkIndex_df160 ∈ AL ∧ Cond.static yJ0_checkIndex_df160 ∈ AL := ⟨w5_94, w5_95⟩
theorem w5_99 : Cond.methodLink RJ0 1059 yJ3_checkIndex_8e157 ∈ AL := AL_in (T5 (List.mem_of_getElem? (i := 99) rfl)) rfl
theorem w5_100 : Cond.static yJ3_checkIndex_8e157 ∈ AL := AL_in (T5 (List.mem_of_getElem? (i := 100) rfl)) rfl
theorem kJ0_1059 : Cond.methodLink RJ0 1059 yJ3_checkIndex_8e157 ∈ AL ∧ Cond.static yJ3_checkIndex_8e157 ∈ AL := ⟨w5_99, w5_100⟩
theorem w5_102 : Cond.methodLink RJ0 498 yJ2_charAt_3b067 ∈ AL := AL_in (T5 (List.mem_of_getElem? (i := 102) rfl)) rfl
theorem w5_103 : Cond.static yJ2_charAt_3b067 ∈ AL := AL_in (T5 (List.mem_of_getElem? (i := 103) rfl)) rfl
theorem kJ0_498 : Cond.methodLink RJ0 498 yJ2_charAt_3b067 ∈ AL ∧ Cond.static yJ2_charAt_3b067 ∈ AL := ⟨w5_102, w5_103⟩
theorem w5_105 : Cond.methodLink RJ2 67 yJ2_checkIndex_2214a ∈ AL := AL_in (T5 (List.mem_of_getElem? (i := 105) rfl)) rfl
theorem w5_106 : Cond.static yJ2_checkIndex_2214a ∈ AL := AL_in (T5 (List.mem_of_getElem? (i := 106) rfl)) rfl
theorem kJ2_67 : Cond.methodLink RJ2 67 yJ2_checkIndex_2214a ∈ AL ∧ Cond.static yJ2_checkIndex_2214a ∈ AL := ⟨w5_105, w5_106⟩
theorem w5_108 : Cond.methodLink RJ2 48 yJ2_length_9d52b ∈ AL := AL_in (T5 (List.mem_of_getElem? (i := 108) rfl)) rfl
theorem w5_109 : Cond.static yJ2_length_9d52b ∈ AL := AL_in (T5 (List.mem_of_getElem? (i := 109) rfl)) rfl
theorem kJ2_48 : Cond.methodLink RJ2 48 yJ2_length_9d52b ∈ AL ∧ Cond.static yJ2_length_9d52b ∈ AL := ⟨w5_108, w5_109⟩
theorem w5_111 : Cond.methodLink RJ2 414 yJ0_checkIndex_df160 ∈ AL := AL_in (T5 (List.mem_of_getElem? (i := 111) rfl)) rfl
theorem kJ2_414 : Cond.methodLink RJ2 414 yJ0_checkIndex_df160 ∈ AL ∧ Cond.static yJ0_checkIndex_df160 ∈ AL := ⟨w5_111, w5_95⟩
theorem w5_112 : Cond.methodLink RJ2 71 yJ2_getChar_3b067 ∈ AL := AL_in (T5 (List.mem_of_getElem? (i := 112) rfl)) rfl
theorem w5_113 : Cond.static yJ2_getChar_3b067 ∈ AL := AL_in (T5 (List.mem_of_getElem? (i := 113) rfl)) rfl
theorem kJ2_71 : Cond.methodLink RJ2 71 yJ2_getChar_3b067 ∈ AL ∧ Cond.static yJ2_getChar_3b067 ∈ AL := ⟨w5_112, w5_113⟩
theorem w5_121 : Cond.methodLink RX2 80 yX2_isDigit ∈ AL := AL_in (T5 (List.mem_of_getElem? (i := 121) rfl)) rfl
theorem w5_123 : Cond.instanceMethod yX2_isDigit ∈ AL := AL_in (T5 (List.mem_of_getElem? (i := 123) rfl)) rfl
theorem w0_12 : Cond.selects RX2 yX2_isDigit yX2_isDigit ∈ AL := AL_in (T0 (List.mem_of_getElem? (i := 12) rfl)) rfl
theorem kX2_80 : Cond.methodLink RX2 80 yX2_isDigit ∈ AL ∧ Cond.instanceMethod yX2_isDigit ∈ AL ∧ Cond.selects mX2_isDigit.1.cls yX2_isDigit yX2_isDigit ∈ AL := ⟨w5_121, w5_123, w0_12⟩
theorem w5_125 : Cond.methodLink RX2 83 yX2_putNumber ∈ AL := AL_in (T5 (List.mem_of_getElem? (i := 125) rfl)) rfl
theorem w5_127 : Cond.instanceMethod yX2_putNumber ∈ AL := AL_in (T5 (List.mem_of_getElem? (i := 127) rfl)) rfl
theorem w0_13 : Cond.selects RX2 yX2_putNumber yX2_putNumber ∈ AL := AL_in (T0 (List.mem_of_getElem? (i := 13) rfl)) rfl
theorem kX2_83 : Cond.methodLink RX2 83 yX2_putNumber ∈ AL ∧ Cond.instanceMethod yX2_putNumber ∈ AL ∧ Cond.selects mX2_putNumber.1.cls yX2_putNumber yX2_putNumber ∈ AL := ⟨w5_125, w5_127, w0_13⟩
theorem w5_129 : Cond.methodLink RX2 60 yX2_closeCommand ∈ AL := AL_in (T5 (List.mem_of_getElem? (i := 129) rfl)) rfl
theorem w5_131 : Cond.instanceMethod yX2_closeCommand ∈ AL := AL_in (T5 (List.mem_of_getElem? (i := 131) rfl)) rfl
theorem w0_14 : Cond.selects RX2 yX2_closeCommand yX2_closeCommand ∈ AL := AL_in (T0 (List.mem_of_getElem? (i := 14) rfl)) rfl
theorem kX2_60 : Cond.methodLink RX2 60 yX2_closeCommand ∈ AL ∧ Cond.instanceMethod yX2_closeCommand ∈ AL ∧ Cond.selects mX2_closeCommand.1.cls yX2_closeCommand yX2_closeCommand ∈ AL := ⟨w5_129, w5_131, w0_14⟩
theorem w5_133 : Cond.methodLink RX2 64 yJ9_max_7cf53 ∈ AL := AL_in (T5 (List.mem_of_getElem? (i := 133) rfl)) rfl
theorem w5_134 : Cond.static yJ9_max_7cf53 ∈ AL := AL_in (T5 (List.mem_of_getElem? (i := 134) rfl)) rfl
theorem kX2_64 : Cond.methodLink RX2 64 yJ9_max_7cf53 ∈ AL ∧ Cond.static yJ9_max_7cf53 ∈ AL := ⟨w5_133, w5_134⟩
theorem w5_136 : Cond.methodLink RX8 293 yX2_clear ∈ AL := AL_in (T5 (List.mem_of_getElem? (i := 136) rfl)) rfl
theorem w5_137 : Cond.instanceMethod yX2_clear ∈ AL := AL_in (T5 (List.mem_of_getElem? (i := 137) rfl)) rfl
theorem w5_138 : Cond.selects RX2 yX2_clear yX2_clear ∈ AL := AL_in (T5 (List.mem_of_getElem? (i := 138) rfl)) rfl
theorem kX8_293 : Cond.methodLink RX8 293 yX2_clear ∈ AL ∧ Cond.instanceMethod yX2_clear ∈ AL ∧ Cond.selects mX2_clear.1.cls yX2_clear yX2_clear ∈ AL := ⟨w5_136, w5_137, w5_138⟩
theorem w5_141 : Cond.methodLink RX8 299 yX2_rewind ∈ AL := AL_in (T5 (List.mem_of_getElem? (i := 141) rfl)) rfl
theorem kX8_299 : Cond.methodLink RX8 299 yX2_rewind ∈ AL ∧ Cond.instanceMethod yX2_rewind ∈ AL ∧ Cond.selects mX2_rewind.1.cls yX2_rewind yX2_rewind ∈ AL := ⟨w5_141, w5_60, w5_61⟩
theorem w5_142 : Cond.methodLink RX8 302 yX2_readCommand ∈ AL := AL_in (T5 (List.mem_of_getElem? (i := 142) rfl)) rfl
theorem kX8_302 : Cond.methodLink RX8 302 yX2_readCommand ∈ AL ∧ Cond.instanceMethod yX2_readCommand ∈ AL ∧ Cond.selects mX2_readCommand.1.cls yX2_readCommand yX2_readCommand ∈ AL := ⟨w5_142, w5_64, w5_65⟩
theorem w5_143 : Cond.methodLink RX8 316 yX8_perform ∈ AL := AL_in (T5 (List.mem_of_getElem? (i := 143) rfl)) rfl
theorem w5_145 : Cond.instanceMethod yX8_perform ∈ AL := AL_in (T5 (List.mem_of_getElem? (i := 145) rfl)) rfl
theorem w0_15 : Cond.selects RX8 yX8_perform yX8_perform ∈ AL := AL_in (T0 (List.mem_of_getElem? (i := 15) rfl)) rfl
theorem kX8_316 : Cond.methodLink RX8 316 yX8_perform ∈ AL ∧ Cond.instanceMethod yX8_perform ∈ AL ∧ Cond.selects mX8_perform.1.cls yX8_perform yX8_perform ∈ AL := ⟨w5_143, w5_145, w0_15⟩
theorem w5_149 : Cond.methodLink RX8 370 ⟨RX1, "ordinal", "()I"⟩ ∈ AL := AL_in (T5 (List.mem_of_getElem? (i := 149) rfl)) rfl
theorem w5_150 : Cond.sameMethod RX1 "java/lang/Enum" "ordinal" "()I" ∈ AL := AL_in (T5 (List.mem_of_getElem? (i := 150) rfl)) rfl
theorem w5_152 : Cond.selects RX1 ⟨RX1, "ordinal", "()I"⟩ yJx29ce0_ordinal_8abf5 ∈ AL := AL_in (T5 (List.mem_of_getElem? (i := 152) rfl)) rfl
theorem w5_153 : Cond.instanceMethod yJx29ce0_ordinal_8abf5 ∈ AL := AL_in (T5 (List.mem_of_getElem? (i := 153) rfl)) rfl
theorem kX8_370 : Cond.methodLink RX8 370 ⟨RX1, "ordinal", "()I"⟩ ∈ AL ∧ Cond.sameMethod RX1 mJx29ce0_ordinal_8abf5.1.cls "ordinal" "()I" ∈ AL ∧ Cond.selects RX1 ⟨RX1, "ordinal", "()I"⟩ yJx29ce0_ordinal_8abf5 ∈ AL ∧ Cond.instanceMethod yJx29ce0_ordinal_8abf5 ∈ AL := ⟨w5_149, w5_150, w5_152, w5_153⟩
theorem w5_155 : Cond.methodLink RX8 320 yX3_revert ∈ AL := AL_in (T5 (List.mem_of_getElem? (i := 155) rfl)) rfl
theorem w5_156 : Cond.instanceMethod yX3_revert ∈ AL := AL_in (T5 (List.mem_of_getElem? (i := 156) rfl)) rfl
theorem w5_157 : Cond.selects RX3 yX3_revert yX3_revert ∈ AL := AL_in (T5 (List.mem_of_getElem? (i := 157) rfl)) rfl
theorem kX8_320 : Cond.methodLink RX8 320 yX3_revert ∈ AL ∧ Cond.instanceMethod yX3_revert ∈ AL ∧ Cond.selects mX3_revert.1.cls yX3_revert yX3_revert ∈ AL := ⟨w5_155, w5_156, w5_157⟩
theorem w5_160 : Cond.methodLink RL 337 yL_errorPosition ∈ AL := AL_in (T5 (List.mem_of_getElem? (i := 160) rfl)) rfl
theorem w5_161 : Cond.static yL_errorPosition ∈ AL := AL_in (T5 (List.mem_of_getElem? (i := 161) rfl)) rfl
theorem kL_337 : Cond.methodLink RL 337 yL_errorPosition ∈ AL ∧ Cond.static yL_errorPosition ∈ AL := ⟨w5_160, w5_161⟩
theorem w5_163 : Cond.methodLink RL 150 yX8_errorPosition ∈ AL := AL_in (T5 (List.mem_of_getElem? (i := 163) rfl)) rfl
theorem w5_164 : Cond.instanceMethod yX8_errorPosition ∈ AL := AL_in (T5 (List.mem_of_getElem? (i := 164) rfl)) rfl
theorem w5_165 : Cond.selects RX8 yX8_errorPosition yX8_errorPosition ∈ AL := AL_in (T5 (List.mem_of_getElem? (i := 165) rfl)) rfl
theorem kL_150 : Cond.methodLink RL 150 yX8_errorPosition ∈ AL ∧ Cond.instanceMethod yX8_errorPosition ∈ AL ∧ Cond.selects mX8_errorPosition.1.cls yX8_errorPosition yX8_errorPosition ∈ AL := ⟨w5_163, w5_164, w5_165⟩
theorem w5_167 : Cond.methodLink RL 340 yL_failedCommand ∈ AL := AL_in (T5 (List.mem_of_getElem? (i := 167) rfl)) rfl
theorem w5_168 : Cond.static yL_failedCommand ∈ AL := AL_in (T5 (List.mem_of_getElem? (i := 168) rfl)) rfl
theorem kL_340 : Cond.methodLink RL 340 yL_failedCommand ∈ AL ∧ Cond.static yL_failedCommand ∈ AL := ⟨w5_167, w5_168⟩
theorem w5_170 : Cond.methodLink RL 153 yX8_failedCommand ∈ AL := AL_in (T5 (List.mem_of_getElem? (i := 170) rfl)) rfl
theorem w5_171 : Cond.instanceMethod yX8_failedCommand ∈ AL := AL_in (T5 (List.mem_of_getElem? (i := 171) rfl)) rfl
theorem w5_172 : Cond.selects RX8 yX8_failedCommand yX8_failedCommand ∈ AL := AL_in (T5 (List.mem_of_getElem? (i := 172) rfl)) rfl
theorem kL_153 : Cond.methodLink RL 153 yX8_failedCommand ∈ AL ∧ Cond.instanceMethod yX8_failedCommand ∈ AL ∧ Cond.selects mX8_failedCommand.1.cls yX8_failedCommand yX8_failedCommand ∈ AL := ⟨w5_170, w5_171, w5_172⟩
theorem w5_174 : Cond.methodLink RL 343 yL_undo ∈ AL := AL_in (T5 (List.mem_of_getElem? (i := 174) rfl)) rfl
theorem w5_175 : Cond.static yL_undo ∈ AL := AL_in (T5 (List.mem_of_getElem? (i := 175) rfl)) rfl
theorem kL_343 : Cond.methodLink RL 343 yL_undo ∈ AL ∧ Cond.static yL_undo ∈ AL := ⟨w5_174, w5_175⟩
theorem w5_177 : Cond.methodLink RL 156 yX8_undo ∈ AL := AL_in (T5 (List.mem_of_getElem? (i := 177) rfl)) rfl
theorem w5_178 : Cond.instanceMethod yX8_undo ∈ AL := AL_in (T5 (List.mem_of_getElem? (i := 178) rfl)) rfl
theorem w5_179 : Cond.selects RX8 yX8_undo yX8_undo ∈ AL := AL_in (T5 (List.mem_of_getElem? (i := 179) rfl)) rfl
theorem kL_156 : Cond.methodLink RL 156 yX8_undo ∈ AL ∧ Cond.instanceMethod yX8_undo ∈ AL ∧ Cond.selects mX8_undo.1.cls yX8_undo yX8_undo ∈ AL := ⟨w5_177, w5_178, w5_179⟩
theorem w5_182 : Cond.methodLink RX8 333 yX3_stepBack ∈ AL := AL_in (T5 (List.mem_of_getElem? (i := 182) rfl)) rfl
theorem w5_183 : Cond.instanceMethod yX3_stepBack ∈ AL := AL_in (T5 (List.mem_of_getElem? (i := 183) rfl)) rfl
theorem w5_184 : Cond.selects RX3 yX3_stepBack yX3_stepBack ∈ AL := AL_in (T5 (List.mem_of_getElem? (i := 184) rfl)) rfl
theorem kX8_333 : Cond.methodLink RX8 333 yX3_stepBack ∈ AL ∧ Cond.instanceMethod yX3_stepBack ∈ AL ∧ Cond.selects mX3_stepBack.1.cls yX3_stepBack yX3_stepBack ∈ AL := ⟨w5_182, w5_183, w5_184⟩
theorem w5_186 : Cond.methodLink RL 354 yL_restore ∈ AL := AL_in (T5 (List.mem_of_getElem? (i := 186) rfl)) rfl
theorem w5_187 : Cond.static yL_restore ∈ AL := AL_in (T5 (List.mem_of_getElem? (i := 187) rfl)) rfl
theorem kL_354 : Cond.methodLink RL 354 yL_restore ∈ AL ∧ Cond.static yL_restore ∈ AL := ⟨w5_186, w5_187⟩
theorem w5_189 : Cond.methodLink RL 159 yX8_restore ∈ AL := AL_in (T5 (List.mem_of_getElem? (i := 189) rfl)) rfl
theorem w5_190 : Cond.instanceMethod yX8_restore ∈ AL := AL_in (T5 (List.mem_of_getElem? (i := 190) rfl)) rfl
theorem w5_191 : Cond.selects RX8 yX8_restore yX8_restore ∈ AL := AL_in (T5 (List.mem_of_getElem? (i := 191) rfl)) rfl
theorem kL_159 : Cond.methodLink RL 159 yX8_restore ∈ AL ∧ Cond.instanceMethod yX8_restore ∈ AL ∧ Cond.selects mX8_restore.1.cls yX8_restore yX8_restore ∈ AL := ⟨w5_189, w5_190, w5_191⟩
theorem w5_194 : Cond.methodLink RX8 338 yX3_forget ∈ AL := AL_in (T5 (List.mem_of_getElem? (i := 194) rfl)) rfl
theorem w5_195 : Cond.instanceMethod yX3_forget ∈ AL := AL_in (T5 (List.mem_of_getElem? (i := 195) rfl)) rfl
theorem w5_196 : Cond.selects RX3 yX3_forget yX3_forget ∈ AL := AL_in (T5 (List.mem_of_getElem? (i := 196) rfl)) rfl
theorem kX8_338 : Cond.methodLink RX8 338 yX3_forget ∈ AL ∧ Cond.instanceMethod yX3_forget ∈ AL ∧ Cond.selects mX3_forget.1.cls yX3_forget yX3_forget ∈ AL := ⟨w5_194, w5_195, w5_196⟩
theorem w5_200 : Cond.methodLink RL 165 yX9_init ∈ AL := AL_in (T5 (List.mem_of_getElem? (i := 200) rfl)) rfl
theorem w5_201 : Cond.instanceMethod yX9_init ∈ AL := AL_in (T5 (List.mem_of_getElem? (i := 201) rfl)) rfl
theorem kL_165 : Cond.methodLink RL 165 yX9_init ∈ AL ∧ Cond.instanceMethod yX9_init ∈ AL := ⟨w5_200, w5_201⟩
theorem w5_203 : Cond.methodLink RX9 1 Lib.objectInit ∈ AL := AL_in (T5 (List.mem_of_getElem? (i := 203) rfl)) rfl
theorem kX9_1 : Cond.methodLink RX9 1 Lib.objectInit ∈ AL ∧ Cond.instanceMethod Lib.objectInit ∈ AL ∧ Cond.code Lib.objectInit ⟨#[0xb1]⟩ 1 none ∈ AL := ⟨w5_203, w1_35, w1_36⟩
theorem w6_31 : Cond.methodLink RL 172 yX9_thrown ∈ AL := AL_in (T6 (List.mem_of_getElem? (i := 31) rfl)) rfl
theorem w6_32 : Cond.instanceMethod yX9_thrown ∈ AL := AL_in (T6 (List.mem_of_getElem? (i := 32) rfl)) rfl
theorem w6_33 : Cond.selects RX9 yX9_thrown yX9_thrown ∈ AL := AL_in (T6 (List.mem_of_getElem? (i := 33) rfl)) rfl
theorem kL_172 : Cond.methodLink RL 172 yX9_thrown ∈ AL ∧ Cond.instanceMethod yX9_thrown ∈ AL ∧ Cond.selects mX9_thrown.1.cls yX9_thrown yX9_thrown ∈ AL := ⟨w6_31, w6_32, w6_33⟩
theorem w6_35 : Cond.methodLink RL 171 yX9_addBlock ∈ AL := AL_in (T6 (List.mem_of_getElem? (i := 35) rfl)) rfl
theorem w6_36 : Cond.instanceMethod yX9_addBlock ∈ AL := AL_in (T6 (List.mem_of_getElem? (i := 36) rfl)) rfl
theorem w6_37 : Cond.selects RX9 yX9_addBlock yX9_addBlock ∈ AL := AL_in (T6 (List.mem_of_getElem? (i := 37) rfl)) rfl
theorem kL_171 : Cond.methodLink RL 171 yX9_addBlock ∈ AL ∧ Cond.instanceMethod yX9_addBlock ∈ AL ∧ Cond.selects mX9_addBlock.1.cls yX9_addBlock yX9_addBlock ∈ AL := ⟨w6_35, w6_36, w6_37⟩
theorem w6_39 : Cond.methodLink RX9 127 yX9_remembers ∈ AL := AL_in (T6 (List.mem_of_getElem? (i := 39) rfl)) rfl
theorem w6_41 : Cond.instanceMethod yX9_remembers ∈ AL := AL_in (T6 (List.mem_of_getElem? (i := 41) rfl)) rfl
theorem w0_16 : Cond.selects RX9 yX9_remembers yX9_remembers ∈ AL := AL_in (T0 (List.mem_of_getElem? (i := 16) rfl)) rfl
theorem kX9_127 : Cond.methodLink RX9 127 yX9_remembers ∈ AL ∧ Cond.instanceMethod yX9_remembers ∈ AL ∧ Cond.selects mX9_remembers.1.cls yX9_remembers yX9_remembers ∈ AL := ⟨w6_39, w6_41, w0_16⟩
theorem w6_43 : Cond.methodLink RX9 130 yX9_adds ∈ AL := AL_in (T6 (List.mem_of_getElem? (i := 43) rfl)) rfl
theorem w6_45 : Cond.instanceMethod yX9_adds ∈ AL := AL_in (T6 (List.mem_of_getElem? (i := 45) rfl)) rfl
theorem w0_17 : Cond.selects RX9 yX9_adds yX9_adds ∈ AL := AL_in (T0 (List.mem_of_getElem? (i := 17) rfl)) rfl
theorem kX9_130 : Cond.methodLink RX9 130 yX9_adds ∈ AL ∧ Cond.instanceMethod yX9_adds ∈ AL ∧ Cond.selects mX9_adds.1.cls yX9_adds yX9_adds ∈ AL := ⟨w6_43, w6_45, w0_17⟩
theorem w6_47 : Cond.methodLink RX9 63 yX9_in ∈ AL := AL_in (T6 (List.mem_of_getElem? (i := 47) rfl)) rfl
theorem w6_48 : Cond.static yX9_in ∈ AL := AL_in (T6 (List.mem_of_getElem? (i := 48) rfl)) rfl
theorem kX9_63 : Cond.methodLink RX9 63 yX9_in ∈ AL ∧ Cond.static yX9_in ∈ AL := ⟨w6_47, w6_48⟩
theorem w6_50 : Cond.methodLink RX9 88 yX9_done ∈ AL := AL_in (T6 (List.mem_of_getElem? (i := 50) rfl)) rfl
theorem w6_52 : Cond.instanceMethod yX9_done ∈ AL := AL_in (T6 (List.mem_of_getElem? (i := 52) rfl)) rfl
theorem w0_18 : Cond.selects RX9 yX9_done yX9_done ∈ AL := AL_in (T0 (List.mem_of_getElem? (i := 18) rfl)) rfl
theorem kX9_88 : Cond.methodLink RX9 88 yX9_done ∈ AL ∧ Cond.instanceMethod yX9_done ∈ AL ∧ Cond.selects mX9_done.1.cls yX9_done yX9_done ∈ AL := ⟨w6_50, w6_52, w0_18⟩
theorem w6_54 : Cond.methodLink RX9 133 yX9_ends ∈ AL := AL_in (T6 (List.mem_of_getElem? (i := 54) rfl)) rfl
theorem w6_56 : Cond.instanceMethod yX9_ends ∈ AL := AL_in (T6 (List.mem_of_getElem? (i := 56) rfl)) rfl
theorem w0_19 : Cond.selects RX9 yX9_ends yX9_ends ∈ AL := AL_in (T0 (List.mem_of_getElem? (i := 19) rfl)) rfl
theorem kX9_133 : Cond.methodLink RX9 133 yX9_ends ∈ AL ∧ Cond.instanceMethod yX9_ends ∈ AL ∧ Cond.selects mX9_ends.1.cls yX9_ends yX9_ends ∈ AL := ⟨w6_54, w6_56, w0_19⟩
theorem w6_58 : Cond.methodLink RX9 56 yX9_changed ∈ AL := AL_in (T6 (List.mem_of_getElem? (i := 58) rfl)) rfl
theorem w6_60 : Cond.instanceMethod yX9_changed ∈ AL := AL_in (T6 (List.mem_of_getElem? (i := 60) rfl)) rfl
theorem w0_20 : Cond.selects RX9 yX9_changed yX9_changed ∈ AL := AL_in (T0 (List.mem_of_getElem? (i := 20) rfl)) rfl
theorem kX9_56 : Cond.methodLink RX9 56 yX9_changed ∈ AL ∧ Cond.instanceMethod yX9_changed ∈ AL ∧ Cond.selects mX9_changed.1.cls yX9_changed yX9_changed ∈ AL := ⟨w6_58, w6_60, w0_20⟩
theorem w6_62 : Cond.methodLink RX9 60 yX9_fails ∈ AL := AL_in (T6 (List.mem_of_getElem? (i := 62) rfl)) rfl
theorem w6_64 : Cond.instanceMethod yX9_fails ∈ AL := AL_in (T6 (List.mem_of_getElem? (i := 64) rfl)) rfl
theorem w0_21 : Cond.selects RX9 yX9_fails yX9_fails ∈ AL := AL_in (T0 (List.mem_of_getElem? (i := 21) rfl)) rfl
theorem kX9_60 : Cond.methodLink RX9 60 yX9_fails ∈ AL ∧ Cond.instanceMethod yX9_fails ∈ AL ∧ Cond.selects mX9_fails.1.cls yX9_fails yX9_fails ∈ AL := ⟨w6_62, w6_64, w0_21⟩
theorem w6_66 : Cond.methodLink RL 177 yX9_addCushion ∈ AL := AL_in (T6 (List.mem_of_getElem? (i := 66) rfl)) rfl
theorem w6_67 : Cond.instanceMethod yX9_addCushion ∈ AL := AL_in (T6 (List.mem_of_getElem? (i := 67) rfl)) rfl
theorem w6_68 : Cond.selects RX9 yX9_addCushion yX9_addCushion ∈ AL := AL_in (T6 (List.mem_of_getElem? (i := 68) rfl)) rfl
theorem kL_177 : Cond.methodLink RL 177 yX9_addCushion ∈ AL ∧ Cond.instanceMethod yX9_addCushion ∈ AL ∧ Cond.selects mX9_addCushion.1.cls yX9_addCushion yX9_addCushion ∈ AL := ⟨w6_66, w6_67, w6_68⟩
theorem w6_70 : Cond.methodLink RL 181 yX9_link ∈ AL := AL_in (T6 (List.mem_of_getElem? (i := 70) rfl)) rfl
theorem w6_71 : Cond.instanceMethod yX9_link ∈ AL := AL_in (T6 (List.mem_of_getElem? (i := 71) rfl)) rfl
theorem w6_72 : Cond.selects RX9 yX9_link yX9_link ∈ AL := AL_in (T6 (List.mem_of_getElem? (i := 72) rfl)) rfl
theorem kL_181 : Cond.methodLink RL 181 yX9_link ∈ AL ∧ Cond.instanceMethod yX9_link ∈ AL ∧ Cond.selects mX9_link.1.cls yX9_link yX9_link ∈ AL := ⟨w6_70, w6_71, w6_72⟩
theorem w6_74 : Cond.methodLink RX9 136 yX9_joins ∈ AL := AL_in (T6 (List.mem_of_getElem? (i := 74) rfl)) rfl
theorem w6_76 : Cond.instanceMethod yX9_joins ∈ AL := AL_in (T6 (List.mem_of_getElem? (i := 76) rfl)) rfl
theorem w0_22 : Cond.selects RX9 yX9_joins yX9_joins ∈ AL := AL_in (T0 (List.mem_of_getElem? (i := 22) rfl)) rfl
theorem kX9_136 : Cond.methodLink RX9 136 yX9_joins ∈ AL ∧ Cond.instanceMethod yX9_joins ∈ AL ∧ Cond.selects mX9_joins.1.cls yX9_joins yX9_joins ∈ AL := ⟨w6_74, w6_76, w0_22⟩
theorem w6_78 : Cond.methodLink RX9 91 yX9_isBlock ∈ AL := AL_in (T6 (List.mem_of_getElem? (i := 78) rfl)) rfl
theorem w6_80 : Cond.instanceMethod yX9_isBlock ∈ AL := AL_in (T6 (List.mem_of_getElem? (i := 80) rfl)) rfl
theorem w0_23 : Cond.selects RX9 yX9_isBlock yX9_isBlock ∈ AL := AL_in (T0 (List.mem_of_getElem? (i := 23) rfl)) rfl
theorem kX9_91 : Cond.methodLink RX9 91 yX9_isBlock ∈ AL ∧ Cond.instanceMethod yX9_isBlock ∈ AL ∧ Cond.selects mX9_isBlock.1.cls yX9_isBlock yX9_isBlock ∈ AL := ⟨w6_78, w6_80, w0_23⟩
theorem w6_82 : Cond.methodLink RX9 67 yX9_linked ∈ AL := AL_in (T6 (List.mem_of_getElem? (i := 82) rfl)) rfl
theorem w6_84 : Cond.instanceMethod yX9_linked ∈ AL := AL_in (T6 (List.mem_of_getElem? (i := 84) rfl)) rfl
theorem w0_24 : Cond.selects RX9 yX9_linked yX9_linked ∈ AL := AL_in (T0 (List.mem_of_getElem? (i := 24) rfl)) rfl
theorem kX9_67 : Cond.methodLink RX9 67 yX9_linked ∈ AL ∧ Cond.instanceMethod yX9_linked ∈ AL ∧ Cond.selects mX9_linked.1.cls yX9_linked yX9_linked ∈ AL := ⟨w6_82, w6_84, w0_24⟩
theorem w6_86 : Cond.methodLink RX9 95 yX9_links ∈ AL := AL_in (T6 (List.mem_of_getElem? (i := 86) rfl)) rfl
theorem w6_88 : Cond.instanceMethod yX9_links ∈ AL := AL_in (T6 (List.mem_of_getElem? (i := 88) rfl)) rfl
theorem w0_25 : Cond.selects RX9 yX9_links yX9_links ∈ AL := AL_in (T0 (List.mem_of_getElem? (i := 25) rfl)) rfl
theorem kX9_95 : Cond.methodLink RX9 95 yX9_links ∈ AL ∧ Cond.instanceMethod yX9_links ∈ AL ∧ Cond.selects mX9_links.1.cls yX9_links yX9_links ∈ AL := ⟨w6_86, w6_88, w0_25⟩
theorem w6_90 : Cond.methodLink RL 184 yX9_unlink ∈ AL := AL_in (T6 (List.mem_of_getElem? (i := 90) rfl)) rfl
theorem w6_91 : Cond.instanceMethod yX9_unlink ∈ AL := AL_in (T6 (List.mem_of_getElem? (i := 91) rfl)) rfl
theorem w6_92 : Cond.selects RX9 yX9_unlink yX9_unlink ∈ AL := AL_in (T6 (List.mem_of_getElem? (i := 92) rfl)) rfl
theorem kL_184 : Cond.methodLink RL 184 yX9_unlink ∈ AL ∧ Cond.instanceMethod yX9_unlink ∈ AL ∧ Cond.selects mX9_unlink.1.cls yX9_unlink yX9_unlink ∈ AL := ⟨w6_90, w6_91, w6_92⟩
theorem w6_94 : Cond.methodLink RX9 139 yX9_parts ∈ AL := AL_in (T6 (List.mem_of_getElem? (i := 94) rfl)) rfl
theorem w6_96 : Cond.instanceMethod yX9_parts ∈ AL := AL_in (T6 (List.mem_of_getElem? (i := 96) rfl)) rfl
theorem w0_26 : Cond.selects RX9 yX9_parts yX9_parts ∈ AL := AL_in (T0 (List.mem_of_getElem? (i := 26) rfl)) rfl
theorem kX9_139 : Cond.methodLink RX9 139 yX9_parts ∈ AL ∧ Cond.instanceMethod yX9_parts ∈ AL ∧ Cond.selects mX9_parts.1.cls yX9_parts yX9_parts ∈ AL := ⟨w6_94, w6_96, w0_26⟩
theorem w6_98 : Cond.methodLink RL 187 yX9_putCat ∈ AL := AL_in (T6 (List.mem_of_getElem? (i := 98) rfl)) rfl
theorem w6_99 : Cond.instanceMethod yX9_putCat ∈ AL := AL_in (T6 (List.mem_of_getElem? (i := 99) rfl)) rfl
theorem w6_100 : Cond.selects RX9 yX9_putCat yX9_putCat ∈ AL := AL_in (T6 (List.mem_of_getElem? (i := 100) rfl)) rfl
theorem kL_187 : Cond.methodLink RL 187 yX9_putCat ∈ AL ∧ Cond.instanceMethod yX9_putCat ∈ AL ∧ Cond.selects mX9_putCat.1.cls yX9_putCat yX9_putCat ∈ AL := ⟨w6_98, w6_99, w6_100⟩
theorem w6_102 : Cond.methodLink RX9 142 yX9_seats ∈ AL := AL_in (T6 (List.mem_of_getElem? (i := 102) rfl)) rfl
theorem w6_104 : Cond.instanceMethod yX9_seats ∈ AL := AL_in (T6 (List.mem_of_getElem? (i := 104) rfl)) rfl
theorem w0_27 : Cond.selects RX9 yX9_seats yX9_seats ∈ AL := AL_in (T0 (List.mem_of_getElem? (i := 27) rfl)) rfl
theorem kX9_142 : Cond.methodLink RX9 142 yX9_seats ∈ AL ∧ Cond.instanceMethod yX9_seats ∈ AL ∧ Cond.selects mX9_seats.1.cls yX9_seats yX9_seats ∈ AL := ⟨w6_102, w6_104, w0_27⟩
theorem w6_106 : Cond.methodLink RX9 71 yX9_block ∈ AL := AL_in (T6 (List.mem_of_getElem? (i := 106) rfl)) rfl
theorem w6_108 : Cond.instanceMethod yX9_block ∈ AL := AL_in (T6 (List.mem_of_getElem? (i := 108) rfl)) rfl
theorem w0_28 : Cond.selects RX9 yX9_block yX9_block ∈ AL := AL_in (T0 (List.mem_of_getElem? (i := 28) rfl)) rfl
theorem kX9_71 : Cond.methodLink RX9 71 yX9_block ∈ AL ∧ Cond.instanceMethod yX9_block ∈ AL ∧ Cond.selects mX9_block.1.cls yX9_block yX9_block ∈ AL := ⟨w6_106, w6_108, w0_28⟩
theorem w6_110 : Cond.methodLink RX9 99 yX9_inside ∈ AL := AL_in (T6 (List.mem_of_getElem? (i := 110) rfl)) rfl
theorem w6_112 : Cond.instanceMethod yX9_inside ∈ AL := AL_in (T6 (List.mem_of_getElem? (i := 112) rfl)) rfl
theorem w0_29 : Cond.selects RX9 yX9_inside yX9_inside ∈ AL := AL_in (T0 (List.mem_of_getElem? (i := 29) rfl)) rfl
theorem kX9_99 : Cond.methodLink RX9 99 yX9_inside ∈ AL ∧ Cond.instanceMethod yX9_inside ∈ AL ∧ Cond.selects mX9_inside.1.cls yX9_inside yX9_inside ∈ AL := ⟨w6_110, w6_112, w0_29⟩
theorem w6_114 : Cond.methodLink RX9 75 yX9_train ∈ AL := AL_in (T6 (List.mem_of_getElem? (i := 114) rfl)) rfl
theorem w6_116 : Cond.instanceMethod yX9_train ∈ AL := AL_in (T6 (List.mem_of_getElem? (i := 116) rfl)) rfl
theorem w0_30 : Cond.selects RX9 yX9_train yX9_train ∈ AL := AL_in (T0 (List.mem_of_getElem? (i := 30) rfl)) rfl
theorem kX9_75 : Cond.methodLink RX9 75 yX9_train ∈ AL ∧ Cond.instanceMethod yX9_train ∈ AL ∧ Cond.selects mX9_train.1.cls yX9_train yX9_train ∈ AL := ⟨w6_114, w6_116, w0_30⟩
theorem w6_118 : Cond.methodLink RX9 102 yX9_cats ∈ AL := AL_in (T6 (List.mem_of_getElem? (i := 118) rfl)) rfl
theorem w6_120 : Cond.instanceMethod yX9_cats ∈ AL := AL_in (T6 (List.mem_of_getElem? (i := 120) rfl)) rfl
theorem w0_31 : Cond.selects RX9 yX9_cats yX9_cats ∈ AL := AL_in (T0 (List.mem_of_getElem? (i := 31) rfl)) rfl
theorem kX9_102 : Cond.methodLink RX9 102 yX9_cats ∈ AL ∧ Cond.instanceMethod yX9_cats ∈ AL ∧ Cond.selects mX9_cats.1.cls yX9_cats yX9_cats ∈ AL := ⟨w6_118, w6_120, w0_31⟩
theorem w6_122 : Cond.methodLink RL 190 yX9_removeCat ∈ AL := AL_in (T6 (List.mem_of_getElem? (i := 122) rfl)) rfl
theorem w6_123 : Cond.instanceMethod yX9_removeCat ∈ AL := AL_in (T6 (List.mem_of_getElem? (i := 123) rfl)) rfl
theorem w6_124 : Cond.selects RX9 yX9_removeCat yX9_removeCat ∈ AL := AL_in (T6 (List.mem_of_getElem? (i := 124) rfl)) rfl
theorem kL_190 : Cond.methodLink RL 190 yX9_removeCat ∈ AL ∧ Cond.instanceMethod yX9_removeCat ∈ AL ∧ Cond.selects mX9_removeCat.1.cls yX9_removeCat yX9_removeCat ∈ AL := ⟨w6_122, w6_123, w6_124⟩
theorem w6_126 : Cond.methodLink RX9 145 yX9_shoos ∈ AL := AL_in (T6 (List.mem_of_getElem? (i := 126) rfl)) rfl
theorem w6_128 : Cond.instanceMethod yX9_shoos ∈ AL := AL_in (T6 (List.mem_of_getElem? (i := 128) rfl)) rfl
theorem w0_32 : Cond.selects RX9 yX9_shoos yX9_shoos ∈ AL := AL_in (T0 (List.mem_of_getElem? (i := 32) rfl)) rfl
theorem kX9_145 : Cond.methodLink RX9 145 yX9_shoos ∈ AL ∧ Cond.instanceMethod yX9_shoos ∈ AL ∧ Cond.selects mX9_shoos.1.cls yX9_shoos yX9_shoos ∈ AL := ⟨w6_126, w6_128, w0_32⟩
theorem w6_130 : Cond.methodLink RL 194 yX9_blockCount ∈ AL := AL_in (T6 (List.mem_of_getElem? (i := 130) rfl)) rfl
theorem w6_131 : Cond.instanceMethod yX9_blockCount ∈ AL := AL_in (T6 (List.mem_of_getElem? (i := 131) rfl)) rfl
theorem w6_132 : Cond.selects RX9 yX9_blockCount yX9_blockCount ∈ AL := AL_in (T6 (List.mem_of_getElem? (i := 132) rfl)) rfl
theorem kL_194 : Cond.methodLink RL 194 yX9_blockCount ∈ AL ∧ Cond.instanceMethod yX9_blockCount ∈ AL ∧ Cond.selects mX9_blockCount.1.cls yX9_blockCount yX9_blockCount ∈ AL := ⟨w6_130, w6_131, w6_132⟩
theorem w6_134 : Cond.methodLink RL 197 yX9_length ∈ AL := AL_in (T6 (List.mem_of_getElem? (i := 134) rfl)) rfl
theorem w6_135 : Cond.instanceMethod yX9_length ∈ AL := AL_in (T6 (List.mem_of_getElem? (i := 135) rfl)) rfl
theorem w6_136 : Cond.selects RX9 yX9_length yX9_length ∈ AL := AL_in (T6 (List.mem_of_getElem? (i := 136) rfl)) rfl
theorem kL_197 : Cond.methodLink RL 197 yX9_length ∈ AL ∧ Cond.instanceMethod yX9_length ∈ AL ∧ Cond.selects mX9_length.1.cls yX9_length yX9_length ∈ AL := ⟨w6_134, w6_135, w6_136⟩
theorem w6_138 : Cond.methodLink RX9 148 yX9_askedBlock ∈ AL := AL_in (T6 (List.mem_of_getElem? (i := 138) rfl)) rfl
theorem w6_140 : Cond.instanceMethod yX9_askedBlock ∈ AL := AL_in (T6 (List.mem_of_getElem? (i := 140) rfl)) rfl
theorem w0_33 : Cond.selects RX9 yX9_askedBlock yX9_askedBlock ∈ AL := AL_in (T0 (List.mem_of_getElem? (i := 33) rfl)) rfl
theorem kX9_148 : Cond.methodLink RX9 148 yX9_askedBlock ∈ AL ∧ Cond.instanceMethod yX9_askedBlock ∈ AL ∧ Cond.selects mX9_askedBlock.1.cls yX9_askedBlock yX9_askedBlock ∈ AL := ⟨w6_138, w6_140, w0_33⟩
theorem w6_142 : Cond.methodLink RL 200 yX9_isCushion ∈ AL := AL_in (T6 (List.mem_of_getElem? (i := 142) rfl)) rfl
theorem w6_143 : Cond.instanceMethod yX9_isCushion ∈ AL := AL_in (T6 (List.mem_of_getElem? (i := 143) rfl)) rfl
theorem w6_144 : Cond.selects RX9 yX9_isCushion yX9_isCushion ∈ AL := AL_in (T6 (List.mem_of_getElem? (i := 144) rfl)) rfl
theorem kL_200 : Cond.methodLink RL 200 yX9_isCushion ∈ AL ∧ Cond.instanceMethod yX9_isCushion ∈ AL ∧ Cond.selects mX9_isCushion.1.cls yX9_isCushion yX9_isCushion ∈ AL := ⟨w6_142, w6_143, w6_144⟩
theorem w6_146 : Cond.methodLink RL 203 yX9_hasCat ∈ AL := AL_in (T6 (List.mem_of_getElem? (i := 146) rfl)) rfl
theorem w6_147 : Cond.instanceMethod yX9_hasCat ∈ AL := AL_in (T6 (List.mem_of_getElem? (i := 147) rfl)) rfl
theorem w6_148 : Cond.selects RX9 yX9_hasCat yX9_hasCat ∈ AL := AL_in (T6 (List.mem_of_getElem? (i := 148) rfl)) rfl
theorem kL_203 : Cond.methodLink RL 203 yX9_hasCat ∈ AL ∧ Cond.instanceMethod yX9_hasCat ∈ AL ∧ Cond.selects mX9_hasCat.1.cls yX9_hasCat yX9_hasCat ∈ AL := ⟨w6_146, w6_147, w6_148⟩
theorem w6_150 : Cond.methodLink RL 206 yX9_areLinked ∈ AL := AL_in (T6 (List.mem_of_getElem? (i := 150) rfl)) rfl
theorem w6_151 : Cond.instanceMethod yX9_areLinked ∈ AL := AL_in (T6 (List.mem_of_getElem? (i := 151) rfl)) rfl
theorem w6_152 : Cond.selects RX9 yX9_areLinked yX9_areLinked ∈ AL := AL_in (T6 (List.mem_of_getElem? (i := 152) rfl)) rfl
theorem kL_206 : Cond.methodLink RL 206 yX9_areLinked ∈ AL ∧ Cond.instanceMethod yX9_areLinked ∈ AL ∧ Cond.selects mX9_areLinked.1.cls yX9_areLinked yX9_areLinked ∈ AL := ⟨w6_150, w6_151, w6_152⟩
theorem w6_154 : Cond.methodLink RL 209 yX9_degree ∈ AL := AL_in (T6 (List.mem_of_getElem? (i := 154) rfl)) rfl
theorem w6_155 : Cond.instanceMethod yX9_degree ∈ AL := AL_in (T6 (List.mem_of_getElem? (i := 155) rfl)) rfl
theorem w6_156 : Cond.selects RX9 yX9_degree yX9_degree ∈ AL := AL_in (T6 (List.mem_of_getElem? (i := 156) rfl)) rfl
theorem kL_209 : Cond.methodLink RL 209 yX9_degree ∈ AL ∧ Cond.instanceMethod yX9_degree ∈ AL ∧ Cond.selects mX9_degree.1.cls yX9_degree yX9_degree ∈ AL := ⟨w6_154, w6_155, w6_156⟩
theorem w6_158 : Cond.methodLink RL 212 yX9_trainIn ∈ AL := AL_in (T6 (List.mem_of_getElem? (i := 158) rfl)) rfl
theorem w6_159 : Cond.instanceMethod yX9_trainIn ∈ AL := AL_in (T6 (List.mem_of_getElem? (i := 159) rfl)) rfl
theorem w6_160 : Cond.selects RX9 yX9_trainIn yX9_trainIn ∈ AL := AL_in (T6 (List.mem_of_getElem? (i := 160) rfl)) rfl
theorem kL_212 : Cond.methodLink RL 212 yX9_trainIn ∈ AL ∧ Cond.instanceMethod yX9_trainIn ∈ AL ∧ Cond.selects mX9_trainIn.1.cls yX9_trainIn yX9_trainIn ∈ AL := ⟨w6_158, w6_159, w6_160⟩
theorem w6_162 : Cond.methodLink RL 215 yX9_reservedBy ∈ AL := AL_in (T6 (List.mem_of_getElem? (i := 162) rfl)) rfl
theorem w6_163 : Cond.instanceMethod yX9_reservedBy ∈ AL := AL_in (T6 (List.mem_of_getElem? (i := 163) rfl)) rfl
theorem w6_164 : Cond.selects RX9 yX9_reservedBy yX9_reservedBy ∈ AL := AL_in (T6 (List.mem_of_getElem? (i := 164) rfl)) rfl
theorem kL_215 : Cond.methodLink RL 215 yX9_reservedBy ∈ AL ∧ Cond.instanceMethod yX9_reservedBy ∈ AL ∧ Cond.selects mX9_reservedBy.1.cls yX9_reservedBy yX9_reservedBy ∈ AL := ⟨w6_162, w6_163, w6_164⟩
theorem w6_166 : Cond.methodLink RX9 78 yX9_holder ∈ AL := AL_in (T6 (List.mem_of_getElem? (i := 166) rfl)) rfl
theorem w6_168 : Cond.instanceMethod yX9_holder ∈ AL := AL_in (T6 (List.mem_of_getElem? (i := 168) rfl)) rfl
theorem w0_34 : Cond.selects RX9 yX9_holder yX9_holder ∈ AL := AL_in (T0 (List.mem_of_getElem? (i := 34) rfl)) rfl
theorem kX9_78 : Cond.methodLink RX9 78 yX9_holder ∈ AL ∧ Cond.instanceMethod yX9_holder ∈ AL ∧ Cond.selects mX9_holder.1.cls yX9_holder yX9_holder ∈ AL := ⟨w6_166, w6_168, w0_34⟩
theorem w6_170 : Cond.methodLink RL 218 yX9_signal ∈ AL := AL_in (T6 (List.mem_of_getElem? (i := 170) rfl)) rfl
theorem w6_171 : Cond.instanceMethod yX9_signal ∈ AL := AL_in (T6 (List.mem_of_getElem? (i := 171) rfl)) rfl
theorem w6_172 : Cond.selects RX9 yX9_signal yX9_signal ∈ AL := AL_in (T6 (List.mem_of_getElem? (i := 172) rfl)) rfl
theorem kL_218 : Cond.methodLink RL 218 yX9_signal ∈ AL ∧ Cond.instanceMethod yX9_signal ∈ AL ∧ Cond.selects mX9_signal.1.cls yX9_signal yX9_signal ∈ AL := ⟨w6_170, w6_171, w6_172⟩
theorem w6_174 : Cond.methodLink RX9 151 yX9_sign ∈ AL := AL_in (T6 (List.mem_of_getElem? (i := 174) rfl)) rfl
theorem w6_176 : Cond.instanceMethod yX9_sign ∈ AL := AL_in (T6 (List.mem_of_getElem? (i := 176) rfl)) rfl
theorem w0_35 : Cond.selects RX9 yX9_sign yX9_sign ∈ AL := AL_in (T0 (List.mem_of_getElem? (i := 35) rfl)) rfl
theorem kX9_151 : Cond.methodLink RX9 151 yX9_sign ∈ AL ∧ Cond.instanceMethod yX9_sign ∈ AL ∧ Cond.selects mX9_sign.1.cls yX9_sign yX9_sign ∈ AL := ⟨w6_174, w6_176, w0_35⟩
theorem w6_178 : Cond.methodLink RL 221 yX9_distance ∈ AL := AL_in (T6 (List.mem_of_getElem? (i := 178) rfl)) rfl
theorem w6_179 : Cond.instanceMethod yX9_distance ∈ AL := AL_in (T6 (List.mem_of_getElem? (i := 179) rfl)) rfl
theorem w6_180 : Cond.selects RX9 yX9_distance yX9_distance ∈ AL := AL_in (T6 (List.mem_of_getElem? (i := 180) rfl)) rfl
theorem kL_221 : Cond.methodLink RL 221 yX9_distance ∈ AL ∧ Cond.instanceMethod yX9_distance ∈ AL ∧ Cond.selects mX9_distance.1.cls yX9_distance yX9_distance ∈ AL := ⟨w6_178, w6_179, w6_180⟩
theorem w6_182 : Cond.methodLink RX9 84 yX9_ways ∈ AL := AL_in (T6 (List.mem_of_getElem? (i := 182) rfl)) rfl
theorem w6_184 : Cond.instanceMethod yX9_ways ∈ AL := AL_in (T6 (List.mem_of_getElem? (i := 184) rfl)) rfl
theorem w0_36 : Cond.selects RX9 yX9_ways yX9_ways ∈ AL := AL_in (T0 (List.mem_of_getElem? (i := 36) rfl)) rfl
theorem kX9_84 : Cond.methodLink RX9 84 yX9_ways ∈ AL ∧ Cond.instanceMethod yX9_ways ∈ AL ∧ Cond.selects mX9_ways.1.cls yX9_ways yX9_ways ∈ AL := ⟨w6_182, w6_184, w0_36⟩
theorem w6_186 : Cond.methodLink RL 224 yX9_distanceByRounds ∈ AL := AL_in (T6 (List.mem_of_getElem? (i := 186) rfl)) rfl
theorem w6_187 : Cond.instanceMethod yX9_distanceByRounds ∈ AL := AL_in (T6 (List.mem_of_getElem? (i := 187) rfl)) rfl
theorem w6_188 : Cond.selects RX9 yX9_distanceByRounds yX9_distanceByRounds ∈ AL := AL_in (T6 (List.mem_of_getElem? (i := 188) rfl)) rfl
theorem kL_224 : Cond.methodLink RL 224 yX9_distanceByRounds ∈ AL ∧ Cond.instanceMethod yX9_distanceByRounds ∈ AL ∧ Cond.selects mX9_distanceByRounds.1.cls yX9_distanceByRounds yX9_distanceByRounds ∈ AL := ⟨w6_186, w6_187, w6_188⟩
theorem w6_190 : Cond.methodLink RX9 154 yX9_distance ∈ AL := AL_in (T6 (List.mem_of_getElem? (i := 190) rfl)) rfl
theorem kX9_154 : Cond.methodLink RX9 154 yX9_distance ∈ AL ∧ Cond.instanceMethod yX9_distance ∈ AL ∧ Cond.selects mX9_distance.1.cls yX9_distance yX9_distance ∈ AL := ⟨w6_190, w6_179, w6_180⟩
theorem w6_191 : Cond.methodLink RL 227 yX9_nextBlock ∈ AL := AL_in (T6 (List.mem_of_getElem? (i := 191) rfl)) rfl
theorem w6_192 : Cond.instanceMethod yX9_nextBlock ∈ AL := AL_in (T6 (List.mem_of_getElem? (i := 192) rfl)) rfl
theorem w6_193 : Cond.selects RX9 yX9_nextBlock yX9_nextBlock ∈ AL := AL_in (T6 (List.mem_of_getElem? (i := 193) rfl)) rfl
theorem kL_227 : Cond.methodLink RL 227 yX9_nextBlock ∈ AL ∧ Cond.instanceMethod yX9_nextBlock ∈ AL ∧ Cond.selects mX9_nextBlock.1.cls yX9_nextBlock yX9_nextBlock ∈ AL := ⟨w6_191, w6_192, w6_193⟩
theorem w6_195 : Cond.methodLink RX9 109 yX9_isTrain ∈ AL := AL_in (T6 (List.mem_of_getElem? (i := 195) rfl)) rfl
theorem w6_197 : Cond.instanceMethod yX9_isTrain ∈ AL := AL_in (T6 (List.mem_of_getElem? (i := 197) rfl)) rfl
theorem w0_37 : Cond.selects RX9 yX9_isTrain yX9_isTrain ∈ AL := AL_in (T0 (List.mem_of_getElem? (i := 37) rfl)) rfl
theorem kX9_109 : Cond.methodLink RX9 109 yX9_isTrain ∈ AL ∧ Cond.instanceMethod yX9_isTrain ∈ AL ∧ Cond.selects mX9_isTrain.1.cls yX9_isTrain yX9_isTrain ∈ AL := ⟨w6_195, w6_197, w0_37⟩
theorem w6_199 : Cond.methodLink RX9 115 yX9_next ∈ AL := AL_in (T6 (List.mem_of_getElem? (i := 199) rfl)) rfl
theorem w6_201 : Cond.instanceMethod yX9_next ∈ AL := AL_in (T6 (List.mem_of_getElem? (i := 201) rfl)) rfl
theorem w0_38 : Cond.selects RX9 yX9_next yX9_next ∈ AL := AL_in (T0 (List.mem_of_getElem? (i := 38) rfl)) rfl
theorem kX9_115 : Cond.methodLink RX9 115 yX9_next ∈ AL ∧ Cond.instanceMethod yX9_next ∈ AL ∧ Cond.selects mX9_next.1.cls yX9_next yX9_next ∈ AL := ⟨w6_199, w6_201, w0_38⟩
theorem w6_203 : Cond.methodLink RX9 81 yX9_goalOf ∈ AL := AL_in (T6 (List.mem_of_getElem? (i := 203) rfl)) rfl
theorem w6_205 : Cond.instanceMethod yX9_goalOf ∈ AL := AL_in (T6 (List.mem_of_getElem? (i := 205) rfl)) rfl
theorem w0_39 : Cond.selects RX9 yX9_goalOf yX9_goalOf ∈ AL := AL_in (T0 (List.mem_of_getElem? (i := 39) rfl)) rfl
theorem kX9_81 : Cond.methodLink RX9 81 yX9_goalOf ∈ AL ∧ Cond.instanceMethod yX9_goalOf ∈ AL ∧ Cond.selects mX9_goalOf.1.cls yX9_goalOf yX9_goalOf ∈ AL := ⟨w6_203, w6_205, w0_39⟩
theorem w6_207 : Cond.methodLink RL 231 yX9_partCount ∈ AL := AL_in (T6 (List.mem_of_getElem? (i := 207) rfl)) rfl
theorem w6_208 : Cond.instanceMethod yX9_partCount ∈ AL := AL_in (T6 (List.mem_of_getElem? (i := 208) rfl)) rfl
theorem w6_209 : Cond.selects RX9 yX9_partCount yX9_partCount ∈ AL := AL_in (T6 (List.mem_of_getElem? (i := 209) rfl)) rfl
theorem kL_231 : Cond.methodLink RL 231 yX9_partCount ∈ AL ∧ Cond.instanceMethod yX9_partCount ∈ AL ∧ Cond.selects mX9_partCount.1.cls yX9_partCount yX9_partCount ∈ AL := ⟨w6_207, w6_208, w6_209⟩
theorem w6_211 : Cond.methodLink RL 235 yX9_partCountByUnions ∈ AL := AL_in (T6 (List.mem_of_getElem? (i := 211) rfl)) rfl
theorem w6_212 : Cond.instanceMethod yX9_partCountByUnions ∈ AL := AL_in (T6 (List.mem_of_getElem? (i := 212) rfl)) rfl
theorem w6_213 : Cond.selects RX9 yX9_partCountByUnions yX9_partCountByUnions ∈ AL := AL_in (T6 (List.mem_of_getElem? (i := 213) rfl)) rfl
theorem kL_235 : Cond.methodLink RL 235 yX9_partCountByUnions ∈ AL ∧ Cond.instanceMethod yX9_partCountByUnions ∈ AL ∧ Cond.selects mX9_partCountByUnions.1.cls yX9_partCountByUnions yX9_partCountByUnions ∈ AL := ⟨w6_211, w6_212, w6_213⟩
theorem w6_215 : Cond.methodLink RX9 157 yX9_partCount ∈ AL := AL_in (T6 (List.mem_of_getElem? (i := 215) rfl)) rfl
theorem kX9_157 : Cond.methodLink RX9 157 yX9_partCount ∈ AL ∧ Cond.instanceMethod yX9_partCount ∈ AL ∧ Cond.selects mX9_partCount.1.cls yX9_partCount yX9_partCount ∈ AL := ⟨w6_215, w6_208, w6_209⟩
theorem w6_216 : Cond.methodLink RL 238 yX9_nearestCushion ∈ AL := AL_in (T6 (List.mem_of_getElem? (i := 216) rfl)) rfl
theorem w6_217 : Cond.instanceMethod yX9_nearestCushion ∈ AL := AL_in (T6 (List.mem_of_getElem? (i := 217) rfl)) rfl
theorem w6_218 : Cond.selects RX9 yX9_nearestCushion yX9_nearestCushion ∈ AL := AL_in (T6 (List.mem_of_getElem? (i := 218) rfl)) rfl
theorem kL_238 : Cond.methodLink RL 238 yX9_nearestCushion ∈ AL ∧ Cond.instanceMethod yX9_nearestCushion ∈ AL ∧ Cond.selects mX9_nearestCushion.1.cls yX9_nearestCushion yX9_nearestCushion ∈ AL := ⟨w6_216, w6_217, w6_218⟩
theorem w6_220 : Cond.methodLink RL 241 yX9_addTrain ∈ AL := AL_in (T6 (List.mem_of_getElem? (i := 220) rfl)) rfl
theorem w6_221 : Cond.instanceMethod yX9_addTrain ∈ AL := AL_in (T6 (List.mem_of_getElem? (i := 221) rfl)) rfl
theorem w6_222 : Cond.selects RX9 yX9_addTrain yX9_addTrain ∈ AL := AL_in (T6 (List.mem_of_getElem? (i := 222) rfl)) rfl
theorem kL_241 : Cond.methodLink RL 241 yX9_addTrain ∈ AL ∧ Cond.instanceMethod yX9_addTrain ∈ AL ∧ Cond.selects mX9_addTrain.1.cls yX9_addTrain yX9_addTrain ∈ AL := ⟨w6_220, w6_221, w6_222⟩
theorem w6_224 : Cond.methodLink RX9 160 yX9_starts ∈ AL := AL_in (T6 (List.mem_of_getElem? (i := 224) rfl)) rfl
theorem w6_226 : Cond.instanceMethod yX9_starts ∈ AL := AL_in (T6 (List.mem_of_getElem? (i := 226) rfl)) rfl
theorem w0_40 : Cond.selects RX9 yX9_starts yX9_starts ∈ AL := AL_in (T0 (List.mem_of_getElem? (i := 40) rfl)) rfl
theorem kX9_160 : Cond.methodLink RX9 160 yX9_starts ∈ AL ∧ Cond.instanceMethod yX9_starts ∈ AL ∧ Cond.selects mX9_starts.1.cls yX9_starts yX9_starts ∈ AL := ⟨w6_224, w6_226, w0_40⟩
theorem w6_228 : Cond.methodLink RX9 105 yX9_sets ∈ AL := AL_in (T6 (List.mem_of_getElem? (i := 228) rfl)) rfl
theorem w6_230 : Cond.instanceMethod yX9_sets ∈ AL := AL_in (T6 (List.mem_of_getElem? (i := 230) rfl)) rfl
theorem w0_41 : Cond.selects RX9 yX9_sets yX9_sets ∈ AL := AL_in (T0 (List.mem_of_getElem? (i := 41) rfl)) rfl
theorem kX9_105 : Cond.methodLink RX9 105 yX9_sets ∈ AL ∧ Cond.instanceMethod yX9_sets ∈ AL ∧ Cond.selects mX9_sets.1.cls yX9_sets yX9_sets ∈ AL := ⟨w6_228, w6_230, w0_41⟩
theorem w6_232 : Cond.methodLink RL 244 yX9_setGoal ∈ AL := AL_in (T6 (List.mem_of_getElem? (i := 232) rfl)) rfl
theorem w6_233 : Cond.instanceMethod yX9_setGoal ∈ AL := AL_in (T6 (List.mem_of_getElem? (i := 233) rfl)) rfl
theorem w6_234 : Cond.selects RX9 yX9_setGoal yX9_setGoal ∈ AL := AL_in (T6 (List.mem_of_getElem? (i := 234) rfl)) rfl
theorem kL_244 : Cond.methodLink RL 244 yX9_setGoal ∈ AL ∧ Cond.instanceMethod yX9_setGoal ∈ AL ∧ Cond.selects mX9_setGoal.1.cls yX9_setGoal yX9_setGoal ∈ AL := ⟨w6_232, w6_233, w6_234⟩
theorem w6_236 : Cond.methodLink RX9 163 yX9_aims ∈ AL := AL_in (T6 (List.mem_of_getElem? (i := 236) rfl)) rfl
theorem w6_238 : Cond.instanceMethod yX9_aims ∈ AL := AL_in (T6 (List.mem_of_getElem? (i := 238) rfl)) rfl
theorem w0_42 : Cond.selects RX9 yX9_aims yX9_aims ∈ AL := AL_in (T0 (List.mem_of_getElem? (i := 42) rfl)) rfl
theorem kX9_163 : Cond.methodLink RX9 163 yX9_aims ∈ AL ∧ Cond.instanceMethod yX9_aims ∈ AL ∧ Cond.selects mX9_aims.1.cls yX9_aims yX9_aims ∈ AL := ⟨w6_236, w6_238, w0_42⟩
theorem w7_0 : Cond.methodLink RL 247 yX9_clearGoal ∈ AL := AL_in (T7 (List.mem_of_getElem? (i := 0) rfl)) rfl
theorem w7_1 : Cond.instanceMethod yX9_clearGoal ∈ AL := AL_in (T7 (List.mem_of_getElem? (i := 1) rfl)) rfl
theorem w7_2 : Cond.selects RX9 yX9_clearGoal yX9_clearGoal ∈ AL := AL_in (T7 (List.mem_of_getElem? (i := 2) rfl)) rfl
theorem kL_247 : Cond.methodLink RL 247 yX9_clearGoal ∈ AL ∧ Cond.instanceMethod yX9_clearGoal ∈ AL ∧ Cond.selects mX9_clearGoal.1.cls yX9_clearGoal yX9_clearGoal ∈ AL := ⟨w7_0, w7_1, w7_2⟩
theorem w7_4 : Cond.methodLink RX9 166 yX9_forgets ∈ AL := AL_in (T7 (List.mem_of_getElem? (i := 4) rfl)) rfl
theorem w7_6 : Cond.instanceMethod yX9_forgets ∈ AL := AL_in (T7 (List.mem_of_getElem? (i := 6) rfl)) rfl
theorem w0_43 : Cond.selects RX9 yX9_forgets yX9_forgets ∈ AL := AL_in (T0 (List.mem_of_getElem? (i := 43) rfl)) rfl
theorem kX9_166 : Cond.methodLink RX9 166 yX9_forgets ∈ AL ∧ Cond.instanceMethod yX9_forgets ∈ AL ∧ Cond.selects mX9_forgets.1.cls yX9_forgets yX9_forgets ∈ AL := ⟨w7_4, w7_6, w0_43⟩
theorem w7_8 : Cond.methodLink RL 250 yX9_reserve ∈ AL := AL_in (T7 (List.mem_of_getElem? (i := 8) rfl)) rfl
theorem w7_9 : Cond.instanceMethod yX9_reserve ∈ AL := AL_in (T7 (List.mem_of_getElem? (i := 9) rfl)) rfl
theorem w7_10 : Cond.selects RX9 yX9_reserve yX9_reserve ∈ AL := AL_in (T7 (List.mem_of_getElem? (i := 10) rfl)) rfl
theorem kL_250 : Cond.methodLink RL 250 yX9_reserve ∈ AL ∧ Cond.instanceMethod yX9_reserve ∈ AL ∧ Cond.selects mX9_reserve.1.cls yX9_reserve yX9_reserve ∈ AL := ⟨w7_8, w7_9, w7_10⟩
theorem w7_12 : Cond.methodLink RX9 169 yX9_holds ∈ AL := AL_in (T7 (List.mem_of_getElem? (i := 12) rfl)) rfl
theorem w7_14 : Cond.instanceMethod yX9_holds ∈ AL := AL_in (T7 (List.mem_of_getElem? (i := 14) rfl)) rfl
theorem w0_44 : Cond.selects RX9 yX9_holds yX9_holds ∈ AL := AL_in (T0 (List.mem_of_getElem? (i := 44) rfl)) rfl
theorem kX9_169 : Cond.methodLink RX9 169 yX9_holds ∈ AL ∧ Cond.instanceMethod yX9_holds ∈ AL ∧ Cond.selects mX9_holds.1.cls yX9_holds yX9_holds ∈ AL := ⟨w7_12, w7_14, w0_44⟩
theorem w7_16 : Cond.methodLink RX9 112 yX9_held ∈ AL := AL_in (T7 (List.mem_of_getElem? (i := 16) rfl)) rfl
theorem w7_18 : Cond.instanceMethod yX9_held ∈ AL := AL_in (T7 (List.mem_of_getElem? (i := 18) rfl)) rfl
theorem w0_45 : Cond.selects RX9 yX9_held yX9_held ∈ AL := AL_in (T0 (List.mem_of_getElem? (i := 45) rfl)) rfl
theorem kX9_112 : Cond.methodLink RX9 112 yX9_held ∈ AL ∧ Cond.instanceMethod yX9_held ∈ AL ∧ Cond.selects mX9_held.1.cls yX9_held yX9_held ∈ AL := ⟨w7_16, w7_18, w0_45⟩
theorem w7_20 : Cond.methodLink RL 253 yX9_cancelReservation ∈ AL := AL_in (T7 (List.mem_of_getElem? (i := 20) rfl)) rfl
theorem w7_21 : Cond.instanceMethod yX9_cancelReservation ∈ AL := AL_in (T7 (List.mem_of_getElem? (i := 21) rfl)) rfl
theorem w7_22 : Cond.selects RX9 yX9_cancelReservation yX9_cancelReservation ∈ AL := AL_in (T7 (List.mem_of_getElem? (i := 22) rfl)) rfl
theorem kL_253 : Cond.methodLink RL 253 yX9_cancelReservation ∈ AL ∧ Cond.instanceMethod yX9_cancelReservation ∈ AL ∧ Cond.selects mX9_cancelReservation.1.cls yX9_cancelReservation yX9_cancelReservation ∈ AL := ⟨w7_20, w7_21, w7_22⟩
theorem w7_24 : Cond.methodLink RX9 172 yX9_frees ∈ AL := AL_in (T7 (List.mem_of_getElem? (i := 24) rfl)) rfl
theorem w7_26 : Cond.instanceMethod yX9_frees ∈ AL := AL_in (T7 (List.mem_of_getElem? (i := 26) rfl)) rfl
theorem w0_46 : Cond.selects RX9 yX9_frees yX9_frees ∈ AL := AL_in (T0 (List.mem_of_getElem? (i := 46) rfl)) rfl
theorem kX9_172 : Cond.methodLink RX9 172 yX9_frees ∈ AL ∧ Cond.instanceMethod yX9_frees ∈ AL ∧ Cond.selects mX9_frees.1.cls yX9_frees yX9_frees ∈ AL := ⟨w7_24, w7_26, w0_46⟩
theorem w7_28 : Cond.methodLink RL 256 yX9_rescue ∈ AL := AL_in (T7 (List.mem_of_getElem? (i := 28) rfl)) rfl
theorem w7_29 : Cond.instanceMethod yX9_rescue ∈ AL := AL_in (T7 (List.mem_of_getElem? (i := 29) rfl)) rfl
theorem w7_30 : Cond.selects RX9 yX9_rescue yX9_rescue ∈ AL := AL_in (T7 (List.mem_of_getElem? (i := 30) rfl)) rfl
theorem kL_256 : Cond.methodLink RL 256 yX9_rescue ∈ AL ∧ Cond.instanceMethod yX9_rescue ∈ AL ∧ Cond.selects mX9_rescue.1.cls yX9_rescue yX9_rescue ∈ AL := ⟨w7_28, w7_29, w7_30⟩
theorem w7_32 : Cond.methodLink RX9 175 yX9_rescues ∈ AL := AL_in (T7 (List.mem_of_getElem? (i := 32) rfl)) rfl
theorem w7_34 : Cond.instanceMethod yX9_rescues ∈ AL := AL_in (T7 (List.mem_of_getElem? (i := 34) rfl)) rfl
theorem w0_47 : Cond.selects RX9 yX9_rescues yX9_rescues ∈ AL := AL_in (T0 (List.mem_of_getElem? (i := 47) rfl)) rfl
theorem kX9_175 : Cond.methodLink RX9 175 yX9_rescues ∈ AL ∧ Cond.instanceMethod yX9_rescues ∈ AL ∧ Cond.selects mX9_rescues.1.cls yX9_rescues yX9_rescues ∈ AL := ⟨w7_32, w7_34, w0_47⟩
theorem w7_36 : Cond.methodLink RL 260 yX9_trainCount ∈ AL := AL_in (T7 (List.mem_of_getElem? (i := 36) rfl)) rfl
theorem w7_37 : Cond.instanceMethod yX9_trainCount ∈ AL := AL_in (T7 (List.mem_of_getElem? (i := 37) rfl)) rfl
theorem w7_38 : Cond.selects RX9 yX9_trainCount yX9_trainCount ∈ AL := AL_in (T7 (List.mem_of_getElem? (i := 38) rfl)) rfl
theorem kL_260 : Cond.methodLink RL 260 yX9_trainCount ∈ AL ∧ Cond.instanceMethod yX9_trainCount ∈ AL ∧ Cond.selects mX9_trainCount.1.cls yX9_trainCount yX9_trainCount ∈ AL := ⟨w7_36, w7_37, w7_38⟩
theorem w7_40 : Cond.methodLink RL 263 yX9_blockOf ∈ AL := AL_in (T7 (List.mem_of_getElem? (i := 40) rfl)) rfl
theorem w7_41 : Cond.instanceMethod yX9_blockOf ∈ AL := AL_in (T7 (List.mem_of_getElem? (i := 41) rfl)) rfl
theorem w7_42 : Cond.selects RX9 yX9_blockOf yX9_blockOf ∈ AL := AL_in (T7 (List.mem_of_getElem? (i := 42) rfl)) rfl
theorem kL_263 : Cond.methodLink RL 263 yX9_blockOf ∈ AL ∧ Cond.instanceMethod yX9_blockOf ∈ AL ∧ Cond.selects mX9_blockOf.1.cls yX9_blockOf yX9_blockOf ∈ AL := ⟨w7_40, w7_41, w7_42⟩
theorem w7_44 : Cond.methodLink RX9 178 yX9_asked ∈ AL := AL_in (T7 (List.mem_of_getElem? (i := 44) rfl)) rfl
theorem w7_46 : Cond.instanceMethod yX9_asked ∈ AL := AL_in (T7 (List.mem_of_getElem? (i := 46) rfl)) rfl
theorem w0_48 : Cond.selects RX9 yX9_asked yX9_asked ∈ AL := AL_in (T0 (List.mem_of_getElem? (i := 48) rfl)) rfl
theorem kX9_178 : Cond.methodLink RX9 178 yX9_asked ∈ AL ∧ Cond.instanceMethod yX9_asked ∈ AL ∧ Cond.selects mX9_asked.1.cls yX9_asked yX9_asked ∈ AL := ⟨w7_44, w7_46, w0_48⟩
theorem w7_48 : Cond.methodLink RL 266 yX9_priority ∈ AL := AL_in (T7 (List.mem_of_getElem? (i := 48) rfl)) rfl
theorem w7_49 : Cond.instanceMethod yX9_priority ∈ AL := AL_in (T7 (List.mem_of_getElem? (i := 49) rfl)) rfl
theorem w7_50 : Cond.selects RX9 yX9_priority yX9_priority ∈ AL := AL_in (T7 (List.mem_of_getElem? (i := 50) rfl)) rfl
theorem kL_266 : Cond.methodLink RL 266 yX9_priority ∈ AL ∧ Cond.instanceMethod yX9_priority ∈ AL ∧ Cond.selects mX9_priority.1.cls yX9_priority yX9_priority ∈ AL := ⟨w7_48, w7_49, w7_50⟩
theorem w7_52 : Cond.methodLink RL 269 yX9_remainingTicks ∈ AL := AL_in (T7 (List.mem_of_getElem? (i := 52) rfl)) rfl
theorem w7_53 : Cond.instanceMethod yX9_remainingTicks ∈ AL := AL_in (T7 (List.mem_of_getElem? (i := 53) rfl)) rfl
theorem w7_54 : Cond.selects RX9 yX9_remainingTicks yX9_remainingTicks ∈ AL := AL_in (T7 (List.mem_of_getElem? (i := 54) rfl)) rfl
theorem kL_269 : Cond.methodLink RL 269 yX9_remainingTicks ∈ AL ∧ Cond.instanceMethod yX9_remainingTicks ∈ AL ∧ Cond.selects mX9_remainingTicks.1.cls yX9_remainingTicks yX9_remainingTicks ∈ AL := ⟨w7_52, w7_53, w7_54⟩
theorem w7_56 : Cond.methodLink RL 272 yX9_goal ∈ AL := AL_in (T7 (List.mem_of_getElem? (i := 56) rfl)) rfl
theorem w7_57 : Cond.instanceMethod yX9_goal ∈ AL := AL_in (T7 (List.mem_of_getElem? (i := 57) rfl)) rfl
theorem w7_58 : Cond.selects RX9 yX9_goal yX9_goal ∈ AL := AL_in (T7 (List.mem_of_getElem? (i := 58) rfl)) rfl
theorem kL_272 : Cond.methodLink RL 272 yX9_goal ∈ AL ∧ Cond.instanceMethod yX9_goal ∈ AL ∧ Cond.selects mX9_goal.1.cls yX9_goal yX9_goal ∈ AL := ⟨w7_56, w7_57, w7_58⟩
theorem w7_60 : Cond.methodLink RL 275 yX9_isDerailed ∈ AL := AL_in (T7 (List.mem_of_getElem? (i := 60) rfl)) rfl
theorem w7_61 : Cond.instanceMethod yX9_isDerailed ∈ AL := AL_in (T7 (List.mem_of_getElem? (i := 61) rfl)) rfl
theorem w7_62 : Cond.selects RX9 yX9_isDerailed yX9_isDerailed ∈ AL := AL_in (T7 (List.mem_of_getElem? (i := 62) rfl)) rfl
theorem kL_275 : Cond.methodLink RL 275 yX9_isDerailed ∈ AL ∧ Cond.instanceMethod yX9_isDerailed ∈ AL ∧ Cond.selects mX9_isDerailed.1.cls yX9_isDerailed yX9_isDerailed ∈ AL := ⟨w7_60, w7_61, w7_62⟩
theorem w7_64 : Cond.methodLink RL 278 yX9_waits ∈ AL := AL_in (T7 (List.mem_of_getElem? (i := 64) rfl)) rfl
theorem w7_65 : Cond.instanceMethod yX9_waits ∈ AL := AL_in (T7 (List.mem_of_getElem? (i := 65) rfl)) rfl
theorem w7_66 : Cond.selects RX9 yX9_waits yX9_waits ∈ AL := AL_in (T7 (List.mem_of_getElem? (i := 66) rfl)) rfl
theorem kL_278 : Cond.methodLink RL 278 yX9_waits ∈ AL ∧ Cond.instanceMethod yX9_waits ∈ AL ∧ Cond.selects mX9_waits.1.cls yX9_waits yX9_waits ∈ AL := ⟨w7_64, w7_65, w7_66⟩
theorem w7_68 : Cond.methodLink RL 281 yX9_trainByPriority ∈ AL := AL_in (T7 (List.mem_of_getElem? (i := 68) rfl)) rfl
theorem w7_69 : Cond.instanceMethod yX9_trainByPriority ∈ AL := AL_in (T7 (List.mem_of_getElem? (i := 69) rfl)) rfl
theorem w7_70 : Cond.selects RX9 yX9_trainByPriority yX9_trainByPriority ∈ AL := AL_in (T7 (List.mem_of_getElem? (i := 70) rfl)) rfl
theorem kL_281 : Cond.methodLink RL 281 yX9_trainByPriority ∈ AL ∧ Cond.instanceMethod yX9_trainByPriority ∈ AL ∧ Cond.selects mX9_trainByPriority.1.cls yX9_trainByPriority yX9_trainByPriority ∈ AL := ⟨w7_68, w7_69, w7_70⟩
theorem w7_72 : Cond.methodLink RX9 118 yX9_ranked ∈ AL := AL_in (T7 (List.mem_of_getElem? (i := 72) rfl)) rfl
theorem w7_74 : Cond.instanceMethod yX9_ranked ∈ AL := AL_in (T7 (List.mem_of_getElem? (i := 74) rfl)) rfl
theorem w0_49 : Cond.selects RX9 yX9_ranked yX9_ranked ∈ AL := AL_in (T0 (List.mem_of_getElem? (i := 49) rfl)) rfl
theorem kX9_118 : Cond.methodLink RX9 118 yX9_ranked ∈ AL ∧ Cond.instanceMethod yX9_ranked ∈ AL ∧ Cond.selects mX9_ranked.1.cls yX9_ranked yX9_ranked ∈ AL := ⟨w7_72, w7_74, w0_49⟩
theorem w7_76 : Cond.methodLink RL 284 yX9_blockedBy ∈ AL := AL_in (T7 (List.mem_of_getElem? (i := 76) rfl)) rfl
theorem w7_77 : Cond.instanceMethod yX9_blockedBy ∈ AL := AL_in (T7 (List.mem_of_getElem? (i := 77) rfl)) rfl
theorem w7_78 : Cond.selects RX9 yX9_blockedBy yX9_blockedBy ∈ AL := AL_in (T7 (List.mem_of_getElem? (i := 78) rfl)) rfl
theorem kL_284 : Cond.methodLink RL 284 yX9_blockedBy ∈ AL ∧ Cond.instanceMethod yX9_blockedBy ∈ AL ∧ Cond.selects mX9_blockedBy.1.cls yX9_blockedBy yX9_blockedBy ∈ AL := ⟨w7_76, w7_77, w7_78⟩
theorem w7_80 : Cond.methodLink RX9 181 yX9_blocker ∈ AL := AL_in (T7 (List.mem_of_getElem? (i := 80) rfl)) rfl
theorem w7_82 : Cond.instanceMethod yX9_blocker ∈ AL := AL_in (T7 (List.mem_of_getElem? (i := 82) rfl)) rfl
theorem w0_50 : Cond.selects RX9 yX9_blocker yX9_blocker ∈ AL := AL_in (T0 (List.mem_of_getElem? (i := 50) rfl)) rfl
theorem kX9_181 : Cond.methodLink RX9 181 yX9_blocker ∈ AL ∧ Cond.instanceMethod yX9_blocker ∈ AL ∧ Cond.selects mX9_blocker.1.cls yX9_blocker yX9_blocker ∈ AL := ⟨w7_80, w7_82, w0_50⟩
theorem w7_84 : Cond.methodLink RL 288 yX9_deadlocked ∈ AL := AL_in (T7 (List.mem_of_getElem? (i := 84) rfl)) rfl
theorem w7_85 : Cond.instanceMethod yX9_deadlocked ∈ AL := AL_in (T7 (List.mem_of_getElem? (i := 85) rfl)) rfl
theorem w7_86 : Cond.selects RX9 yX9_deadlocked yX9_deadlocked ∈ AL := AL_in (T7 (List.mem_of_getElem? (i := 86) rfl)) rfl
theorem kL_288 : Cond.methodLink RL 288 yX9_deadlocked ∈ AL ∧ Cond.instanceMethod yX9_deadlocked ∈ AL ∧ Cond.selects mX9_deadlocked.1.cls yX9_deadlocked yX9_deadlocked ∈ AL := ⟨w7_84, w7_85, w7_86⟩
theorem w7_88 : Cond.methodLink RL 292 yX9_deadlockedByTable ∈ AL := AL_in (T7 (List.mem_of_getElem? (i := 88) rfl)) rfl
theorem w7_89 : Cond.instanceMethod yX9_deadlockedByTable ∈ AL := AL_in (T7 (List.mem_of_getElem? (i := 89) rfl)) rfl
theorem w7_90 : Cond.selects RX9 yX9_deadlockedByTable yX9_deadlockedByTable ∈ AL := AL_in (T7 (List.mem_of_getElem? (i := 90) rfl)) rfl
theorem kL_292 : Cond.methodLink RL 292 yX9_deadlockedByTable ∈ AL ∧ Cond.instanceMethod yX9_deadlockedByTable ∈ AL ∧ Cond.selects mX9_deadlockedByTable.1.cls yX9_deadlockedByTable yX9_deadlockedByTable ∈ AL := ⟨w7_88, w7_89, w7_90⟩
theorem w7_92 : Cond.methodLink RX9 184 yX9_deadlocked ∈ AL := AL_in (T7 (List.mem_of_getElem? (i := 92) rfl)) rfl
theorem kX9_184 : Cond.methodLink RX9 184 yX9_deadlocked ∈ AL ∧ Cond.instanceMethod yX9_deadlocked ∈ AL ∧ Cond.selects mX9_deadlocked.1.cls yX9_deadlocked yX9_deadlocked ∈ AL := ⟨w7_92, w7_85, w7_86⟩
theorem w7_93 : Cond.methodLink RL 295 yX9_passTicks ∈ AL := AL_in (T7 (List.mem_of_getElem? (i := 93) rfl)) rfl
theorem w7_94 : Cond.instanceMethod yX9_passTicks ∈ AL := AL_in (T7 (List.mem_of_getElem? (i := 94) rfl)) rfl
theorem w7_95 : Cond.selects RX9 yX9_passTicks yX9_passTicks ∈ AL := AL_in (T7 (List.mem_of_getElem? (i := 95) rfl)) rfl
theorem kL_295 : Cond.methodLink RL 295 yX9_passTicks ∈ AL ∧ Cond.instanceMethod yX9_passTicks ∈ AL ∧ Cond.selects mX9_passTicks.1.cls yX9_passTicks yX9_passTicks ∈ AL := ⟨w7_93, w7_94, w7_95⟩
theorem w7_97 : Cond.methodLink RX9 187 yX9_passes ∈ AL := AL_in (T7 (List.mem_of_getElem? (i := 97) rfl)) rfl
theorem w7_99 : Cond.instanceMethod yX9_passes ∈ AL := AL_in (T7 (List.mem_of_getElem? (i := 99) rfl)) rfl
theorem w0_51 : Cond.selects RX9 yX9_passes yX9_passes ∈ AL := AL_in (T0 (List.mem_of_getElem? (i := 51) rfl)) rfl
theorem kX9_187 : Cond.methodLink RX9 187 yX9_passes ∈ AL ∧ Cond.instanceMethod yX9_passes ∈ AL ∧ Cond.selects mX9_passes.1.cls yX9_passes yX9_passes ∈ AL := ⟨w7_97, w7_99, w0_51⟩
theorem w7_101 : Cond.methodLink RX9 124 yX9_oneTick ∈ AL := AL_in (T7 (List.mem_of_getElem? (i := 101) rfl)) rfl
theorem w7_103 : Cond.instanceMethod yX9_oneTick ∈ AL := AL_in (T7 (List.mem_of_getElem? (i := 103) rfl)) rfl
theorem w0_52 : Cond.selects RX9 yX9_oneTick yX9_oneTick ∈ AL := AL_in (T0 (List.mem_of_getElem? (i := 52) rfl)) rfl
theorem kX9_124 : Cond.methodLink RX9 124 yX9_oneTick ∈ AL ∧ Cond.instanceMethod yX9_oneTick ∈ AL ∧ Cond.selects mX9_oneTick.1.cls yX9_oneTick yX9_oneTick ∈ AL := ⟨w7_101, w7_103, w0_52⟩
theorem w7_105 : Cond.methodLink RX9 121 yX9_acts ∈ AL := AL_in (T7 (List.mem_of_getElem? (i := 105) rfl)) rfl
theorem w7_107 : Cond.instanceMethod yX9_acts ∈ AL := AL_in (T7 (List.mem_of_getElem? (i := 107) rfl)) rfl
theorem w0_53 : Cond.selects RX9 yX9_acts yX9_acts ∈ AL := AL_in (T0 (List.mem_of_getElem? (i := 53) rfl)) rfl
theorem kX9_121 : Cond.methodLink RX9 121 yX9_acts ∈ AL ∧ Cond.instanceMethod yX9_acts ∈ AL ∧ Cond.selects mX9_acts.1.cls yX9_acts yX9_acts ∈ AL := ⟨w7_105, w7_107, w0_53⟩
theorem w7_109 : Cond.methodLink RL 299 yX9_ticks ∈ AL := AL_in (T7 (List.mem_of_getElem? (i := 109) rfl)) rfl
theorem w7_110 : Cond.instanceMethod yX9_ticks ∈ AL := AL_in (T7 (List.mem_of_getElem? (i := 110) rfl)) rfl
theorem w7_111 : Cond.selects RX9 yX9_ticks yX9_ticks ∈ AL := AL_in (T7 (List.mem_of_getElem? (i := 111) rfl)) rfl
theorem kL_299 : Cond.methodLink RL 299 yX9_ticks ∈ AL ∧ Cond.instanceMethod yX9_ticks ∈ AL ∧ Cond.selects mX9_ticks.1.cls yX9_ticks yX9_ticks ∈ AL := ⟨w7_109, w7_110, w7_111⟩
theorem w7_113 : Cond.methodLink RL 303 yX9_arrivals ∈ AL := AL_in (T7 (List.mem_of_getElem? (i := 113) rfl)) rfl
theorem w7_114 : Cond.instanceMethod yX9_arrivals ∈ AL := AL_in (T7 (List.mem_of_getElem? (i := 114) rfl)) rfl
theorem w7_115 : Cond.selects RX9 yX9_arrivals yX9_arrivals ∈ AL := AL_in (T7 (List.mem_of_getElem? (i := 115) rfl)) rfl
theorem kL_303 : Cond.methodLink RL 303 yX9_arrivals ∈ AL ∧ Cond.instanceMethod yX9_arrivals ∈ AL ∧ Cond.selects mX9_arrivals.1.cls yX9_arrivals yX9_arrivals ∈ AL := ⟨w7_113, w7_114, w7_115⟩
theorem w7_117 : Cond.methodLink RL 306 yX9_ticksUntilArrival ∈ AL := AL_in (T7 (List.mem_of_getElem? (i := 117) rfl)) rfl
theorem w7_118 : Cond.instanceMethod yX9_ticksUntilArrival ∈ AL := AL_in (T7 (List.mem_of_getElem? (i := 118) rfl)) rfl
theorem w7_119 : Cond.selects RX9 yX9_ticksUntilArrival yX9_ticksUntilArrival ∈ AL := AL_in (T7 (List.mem_of_getElem? (i := 119) rfl)) rfl
theorem kL_306 : Cond.methodLink RL 306 yX9_ticksUntilArrival ∈ AL ∧ Cond.instanceMethod yX9_ticksUntilArrival ∈ AL ∧ Cond.selects mX9_ticksUntilArrival.1.cls yX9_ticksUntilArrival yX9_ticksUntilArrival ∈ AL := ⟨w7_117, w7_118, w7_119⟩
theorem w7_121 : Cond.methodLink RL 310 yX9_meanWaits ∈ AL := AL_in (T7 (List.mem_of_getElem? (i := 121) rfl)) rfl
theorem w7_122 : Cond.instanceMethod yX9_meanWaits ∈ AL := AL_in (T7 (List.mem_of_getElem? (i := 122) rfl)) rfl
theorem w7_123 : Cond.selects RX9 yX9_meanWaits yX9_meanWaits ∈ AL := AL_in (T7 (List.mem_of_getElem? (i := 123) rfl)) rfl
theorem kL_310 : Cond.methodLink RL 310 yX9_meanWaits ∈ AL ∧ Cond.instanceMethod yX9_meanWaits ∈ AL ∧ Cond.selects mX9_meanWaits.1.cls yX9_meanWaits yX9_meanWaits ∈ AL := ⟨w7_121, w7_122, w7_123⟩
theorem w7_125 : Cond.methodLink RL 313 yX9_occupiedFraction ∈ AL := AL_in (T7 (List.mem_of_getElem? (i := 125) rfl)) rfl
theorem w7_126 : Cond.instanceMethod yX9_occupiedFraction ∈ AL := AL_in (T7 (List.mem_of_getElem? (i := 126) rfl)) rfl
theorem w7_127 : Cond.selects RX9 yX9_occupiedFraction yX9_occupiedFraction ∈ AL := AL_in (T7 (List.mem_of_getElem? (i := 127) rfl)) rfl
theorem kL_313 : Cond.methodLink RL 313 yX9_occupiedFraction ∈ AL ∧ Cond.instanceMethod yX9_occupiedFraction ∈ AL ∧ Cond.selects mX9_occupiedFraction.1.cls yX9_occupiedFraction yX9_occupiedFraction ∈ AL := ⟨w7_125, w7_126, w7_127⟩
theorem w7_129 : Cond.methodLink RL 316 yX9_writeTrain ∈ AL := AL_in (T7 (List.mem_of_getElem? (i := 129) rfl)) rfl
theorem w7_130 : Cond.instanceMethod yX9_writeTrain ∈ AL := AL_in (T7 (List.mem_of_getElem? (i := 130) rfl)) rfl
theorem w7_131 : Cond.selects RX9 yX9_writeTrain yX9_writeTrain ∈ AL := AL_in (T7 (List.mem_of_getElem? (i := 131) rfl)) rfl
theorem kL_316 : Cond.methodLink RL 316 yX9_writeTrain ∈ AL ∧ Cond.instanceMethod yX9_writeTrain ∈ AL ∧ Cond.selects mX9_writeTrain.1.cls yX9_writeTrain yX9_writeTrain ∈ AL := ⟨w7_129, w7_130, w7_131⟩
theorem w7_133 : Cond.methodLink RX9 193 yX9_writes ∈ AL := AL_in (T7 (List.mem_of_getElem? (i := 133) rfl)) rfl
theorem w7_135 : Cond.instanceMethod yX9_writes ∈ AL := AL_in (T7 (List.mem_of_getElem? (i := 135) rfl)) rfl
theorem w0_54 : Cond.selects RX9 yX9_writes yX9_writes ∈ AL := AL_in (T0 (List.mem_of_getElem? (i := 54) rfl)) rfl
theorem kX9_193 : Cond.methodLink RX9 193 yX9_writes ∈ AL ∧ Cond.instanceMethod yX9_writes ∈ AL ∧ Cond.selects mX9_writes.1.cls yX9_writes yX9_writes ∈ AL := ⟨w7_133, w7_135, w0_54⟩
theorem w7_137 : Cond.methodLink RX9 196 yX9_writesNumber ∈ AL := AL_in (T7 (List.mem_of_getElem? (i := 137) rfl)) rfl
theorem w7_139 : Cond.instanceMethod yX9_writesNumber ∈ AL := AL_in (T7 (List.mem_of_getElem? (i := 139) rfl)) rfl
theorem w0_55 : Cond.selects RX9 yX9_writesNumber yX9_writesNumber ∈ AL := AL_in (T0 (List.mem_of_getElem? (i := 55) rfl)) rfl
theorem kX9_196 : Cond.methodLink RX9 196 yX9_writesNumber ∈ AL ∧ Cond.instanceMethod yX9_writesNumber ∈ AL ∧ Cond.selects mX9_writesNumber.1.cls yX9_writesNumber yX9_writesNumber ∈ AL := ⟨w7_137, w7_139, w0_55⟩
theorem w7_141 : Cond.methodLink RL 320 yX9_writeSignals ∈ AL := AL_in (T7 (List.mem_of_getElem? (i := 141) rfl)) rfl
theorem w7_142 : Cond.instanceMethod yX9_writeSignals ∈ AL := AL_in (T7 (List.mem_of_getElem? (i := 142) rfl)) rfl
theorem w7_143 : Cond.selects RX9 yX9_writeSignals yX9_writeSignals ∈ AL := AL_in (T7 (List.mem_of_getElem? (i := 143) rfl)) rfl
theorem kL_320 : Cond.methodLink RL 320 yX9_writeSignals ∈ AL ∧ Cond.instanceMethod yX9_writeSignals ∈ AL ∧ Cond.selects mX9_writeSignals.1.cls yX9_writeSignals yX9_writeSignals ∈ AL := ⟨w7_141, w7_142, w7_143⟩
theorem w7_145 : Cond.methodLink RL 323 yX9_outputCharacter ∈ AL := AL_in (T7 (List.mem_of_getElem? (i := 145) rfl)) rfl
theorem w7_146 : Cond.instanceMethod yX9_outputCharacter ∈ AL := AL_in (T7 (List.mem_of_getElem? (i := 146) rfl)) rfl
theorem w7_147 : Cond.selects RX9 yX9_outputCharacter yX9_outputCharacter ∈ AL := AL_in (T7 (List.mem_of_getElem? (i := 147) rfl)) rfl
theorem kL_323 : Cond.methodLink RL 323 yX9_outputCharacter ∈ AL ∧ Cond.instanceMethod yX9_outputCharacter ∈ AL ∧ Cond.selects mX9_outputCharacter.1.cls yX9_outputCharacter yX9_outputCharacter ∈ AL := ⟨w7_145, w7_146, w7_147⟩
theorem w7_149 : Cond.methodLink RL 328 yX9_isConsistent ∈ AL := AL_in (T7 (List.mem_of_getElem? (i := 149) rfl)) rfl
theorem w7_150 : Cond.instanceMethod yX9_isConsistent ∈ AL := AL_in (T7 (List.mem_of_getElem? (i := 150) rfl)) rfl
theorem w7_151 : Cond.selects RX9 yX9_isConsistent yX9_isConsistent ∈ AL := AL_in (T7 (List.mem_of_getElem? (i := 151) rfl)) rfl
theorem kL_328 : Cond.methodLink RL 328 yX9_isConsistent ∈ AL ∧ Cond.instanceMethod yX9_isConsistent ∈ AL ∧ Cond.selects mX9_isConsistent.1.cls yX9_isConsistent yX9_isConsistent ∈ AL := ⟨w7_149, w7_150, w7_151⟩
theorem w7_153 : Cond.methodLink RL 332 yX9_feed ∈ AL := AL_in (T7 (List.mem_of_getElem? (i := 153) rfl)) rfl
theorem w7_154 : Cond.instanceMethod yX9_feed ∈ AL := AL_in (T7 (List.mem_of_getElem? (i := 154) rfl)) rfl
theorem w7_155 : Cond.selects RX9 yX9_feed yX9_feed ∈ AL := AL_in (T7 (List.mem_of_getElem? (i := 155) rfl)) rfl
theorem kL_332 : Cond.methodLink RL 332 yX9_feed ∈ AL ∧ Cond.instanceMethod yX9_feed ∈ AL ∧ Cond.selects mX9_feed.1.cls yX9_feed yX9_feed ∈ AL := ⟨w7_153, w7_154, w7_155⟩
theorem w7_157 : Cond.methodLink RL 336 yX9_execute ∈ AL := AL_in (T7 (List.mem_of_getElem? (i := 157) rfl)) rfl
theorem w7_158 : Cond.instanceMethod yX9_execute ∈ AL := AL_in (T7 (List.mem_of_getElem? (i := 158) rfl)) rfl
theorem w7_159 : Cond.selects RX9 yX9_execute yX9_execute ∈ AL := AL_in (T7 (List.mem_of_getElem? (i := 159) rfl)) rfl
theorem kL_336 : Cond.methodLink RL 336 yX9_execute ∈ AL ∧ Cond.instanceMethod yX9_execute ∈ AL ∧ Cond.selects mX9_execute.1.cls yX9_execute yX9_execute ∈ AL := ⟨w7_157, w7_158, w7_159⟩
theorem w7_161 : Cond.methodLink RX9 269 yX9_readsOne ∈ AL := AL_in (T7 (List.mem_of_getElem? (i := 161) rfl)) rfl
theorem w7_163 : Cond.instanceMethod yX9_readsOne ∈ AL := AL_in (T7 (List.mem_of_getElem? (i := 163) rfl)) rfl
theorem w0_56 : Cond.selects RX9 yX9_readsOne yX9_readsOne ∈ AL := AL_in (T0 (List.mem_of_getElem? (i := 56) rfl)) rfl
theorem kX9_269 : Cond.methodLink RX9 269 yX9_readsOne ∈ AL ∧ Cond.instanceMethod yX9_readsOne ∈ AL ∧ Cond.selects mX9_readsOne.1.cls yX9_readsOne yX9_readsOne ∈ AL := ⟨w7_161, w7_163, w0_56⟩
theorem w7_165 : Cond.methodLink RX9 217 yX9_here ∈ AL := AL_in (T7 (List.mem_of_getElem? (i := 165) rfl)) rfl
theorem w7_167 : Cond.instanceMethod yX9_here ∈ AL := AL_in (T7 (List.mem_of_getElem? (i := 167) rfl)) rfl
theorem w0_57 : Cond.selects RX9 yX9_here yX9_here ∈ AL := AL_in (T0 (List.mem_of_getElem? (i := 57) rfl)) rfl
theorem kX9_217 : Cond.methodLink RX9 217 yX9_here ∈ AL ∧ Cond.instanceMethod yX9_here ∈ AL ∧ Cond.selects mX9_here.1.cls yX9_here yX9_here ∈ AL := ⟨w7_165, w7_167, w0_57⟩
theorem w7_170 : Cond.methodLink RX9 235 yX9_one ∈ AL := AL_in (T7 (List.mem_of_getElem? (i := 170) rfl)) rfl
theorem w7_172 : Cond.instanceMethod yX9_one ∈ AL := AL_in (T7 (List.mem_of_getElem? (i := 172) rfl)) rfl
theorem w0_58 : Cond.selects RX9 yX9_one yX9_one ∈ AL := AL_in (T0 (List.mem_of_getElem? (i := 58) rfl)) rfl
theorem kX9_235 : Cond.methodLink RX9 235 yX9_one ∈ AL ∧ Cond.instanceMethod yX9_one ∈ AL ∧ Cond.selects mX9_one.1.cls yX9_one yX9_one ∈ AL := ⟨w7_170, w7_172, w0_58⟩
theorem w7_174 : Cond.methodLink RX9 227 yX9_says ∈ AL := AL_in (T7 (List.mem_of_getElem? (i := 174) rfl)) rfl
theorem w7_176 : Cond.instanceMethod yX9_says ∈ AL := AL_in (T7 (List.mem_of_getElem? (i := 176) rfl)) rfl
theorem w0_59 : Cond.selects RX9 yX9_says yX9_says ∈ AL := AL_in (T0 (List.mem_of_getElem? (i := 59) rfl)) rfl
theorem kX9_227 : Cond.methodLink RX9 227 yX9_says ∈ AL ∧ Cond.instanceMethod yX9_says ∈ AL ∧ Cond.selects mX9_says.1.cls yX9_says yX9_says ∈ AL := ⟨w7_174, w7_176, w0_59⟩
theorem w7_178 : Cond.methodLink RX9 208 yJ0_length_8abf5 ∈ AL := AL_in (T7 (List.mem_of_getElem? (i := 178) rfl)) rfl
theorem kX9_208 : Cond.methodLink RX9 208 yJ0_length_8abf5 ∈ AL ∧ Cond.instanceMethod yJ0_length_8abf5 ∈ AL ∧ Cond.selects mJ0_length_8abf5.1.cls yJ0_length_8abf5 yJ0_length_8abf5 ∈ AL := ⟨w7_178, w5_74, w5_75⟩
theorem w7_179 : Cond.methodLink RX9 220 yJ0_charAt_5068e ∈ AL := AL_in (T7 (List.mem_of_getElem? (i := 179) rfl)) rfl
theorem kX9_220 : Cond.methodLink RX9 220 yJ0_charAt_5068e ∈ AL ∧ Cond.instanceMethod yJ0_charAt_5068e ∈ AL ∧ Cond.selects mJ0_charAt_5068e.1.cls yJ0_charAt_5068e yJ0_charAt_5068e ∈ AL := ⟨w7_179, w5_84, w5_85⟩
theorem w7_180 : Cond.methodLink RX9 231 yX9_number ∈ AL := AL_in (T7 (List.mem_of_getElem? (i := 180) rfl)) rfl
theorem w7_182 : Cond.instanceMethod yX9_number ∈ AL := AL_in (T7 (List.mem_of_getElem? (i := 182) rfl)) rfl
theorem w0_60 : Cond.selects RX9 yX9_number yX9_number ∈ AL := AL_in (T0 (List.mem_of_getElem? (i := 60) rfl)) rfl
theorem kX9_231 : Cond.methodLink RX9 231 yX9_number ∈ AL ∧ Cond.instanceMethod yX9_number ∈ AL ∧ Cond.selects mX9_number.1.cls yX9_number yX9_number ∈ AL := ⟨w7_180, w7_182, w0_60⟩
theorem w7_188 : Cond.methodLink RX9 249 yX9_two ∈ AL := AL_in (T7 (List.mem_of_getElem? (i := 188) rfl)) rfl
theorem w7_190 : Cond.instanceMethod yX9_two ∈ AL := AL_in (T7 (List.mem_of_getElem? (i := 190) rfl)) rfl
theorem w0_61 : Cond.selects RX9 yX9_two yX9_two ∈ AL := AL_in (T0 (List.mem_of_getElem? (i := 61) rfl)) rfl
theorem kX9_249 : Cond.methodLink RX9 249 yX9_two ∈ AL ∧ Cond.instanceMethod yX9_two ∈ AL ∧ Cond.selects mX9_two.1.cls yX9_two yX9_two ∈ AL := ⟨w7_188, w7_190, w0_61⟩
theorem w7_200 : Cond.methodLink RX9 272 yX9_does ∈ AL := AL_in (T7 (List.mem_of_getElem? (i := 200) rfl)) rfl
theorem w7_202 : Cond.instanceMethod yX9_does ∈ AL := AL_in (T7 (List.mem_of_getElem? (i := 202) rfl)) rfl
theorem w0_62 : Cond.selects RX9 yX9_does yX9_does ∈ AL := AL_in (T0 (List.mem_of_getElem? (i := 62) rfl)) rfl
theorem kX9_272 : Cond.methodLink RX9 272 yX9_does ∈ AL ∧ Cond.instanceMethod yX9_does ∈ AL ∧ Cond.selects mX9_does.1.cls yX9_does yX9_does ∈ AL := ⟨w7_200, w7_202, w0_62⟩
theorem w7_204 : Cond.methodLink RL 339 yX9_errorPosition ∈ AL := AL_in (T7 (List.mem_of_getElem? (i := 204) rfl)) rfl
theorem w7_205 : Cond.instanceMethod yX9_errorPosition ∈ AL := AL_in (T7 (List.mem_of_getElem? (i := 205) rfl)) rfl
theorem w7_206 : Cond.selects RX9 yX9_errorPosition yX9_errorPosition ∈ AL := AL_in (T7 (List.mem_of_getElem? (i := 206) rfl)) rfl
theorem kL_339 : Cond.methodLink RL 339 yX9_errorPosition ∈ AL ∧ Cond.instanceMethod yX9_errorPosition ∈ AL ∧ Cond.selects mX9_errorPosition.1.cls yX9_errorPosition yX9_errorPosition ∈ AL := ⟨w7_204, w7_205, w7_206⟩
theorem w7_208 : Cond.methodLink RL 342 yX9_failedCommand ∈ AL := AL_in (T7 (List.mem_of_getElem? (i := 208) rfl)) rfl
theorem w7_209 : Cond.instanceMethod yX9_failedCommand ∈ AL := AL_in (T7 (List.mem_of_getElem? (i := 209) rfl)) rfl
theorem w7_210 : Cond.selects RX9 yX9_failedCommand yX9_failedCommand ∈ AL := AL_in (T7 (List.mem_of_getElem? (i := 210) rfl)) rfl
theorem kL_342 : Cond.methodLink RL 342 yX9_failedCommand ∈ AL ∧ Cond.instanceMethod yX9_failedCommand ∈ AL ∧ Cond.selects mX9_failedCommand.1.cls yX9_failedCommand yX9_failedCommand ∈ AL := ⟨w7_208, w7_209, w7_210⟩
theorem w7_212 : Cond.methodLink RL 345 yX9_undo ∈ AL := AL_in (T7 (List.mem_of_getElem? (i := 212) rfl)) rfl
theorem w7_213 : Cond.instanceMethod yX9_undo ∈ AL := AL_in (T7 (List.mem_of_getElem? (i := 213) rfl)) rfl
theorem w7_214 : Cond.selects RX9 yX9_undo yX9_undo ∈ AL := AL_in (T7 (List.mem_of_getElem? (i := 214) rfl)) rfl
theorem kL_345 : Cond.methodLink RL 345 yX9_undo ∈ AL ∧ Cond.instanceMethod yX9_undo ∈ AL ∧ Cond.selects mX9_undo.1.cls yX9_undo yX9_undo ∈ AL := ⟨w7_212, w7_213, w7_214⟩
theorem w7_216 : Cond.methodLink RL 349 yX9_undoCount ∈ AL := AL_in (T7 (List.mem_of_getElem? (i := 216) rfl)) rfl
theorem w7_217 : Cond.instanceMethod yX9_undoCount ∈ AL := AL_in (T7 (List.mem_of_getElem? (i := 217) rfl)) rfl
theorem w7_218 : Cond.selects RX9 yX9_undoCount yX9_undoCount ∈ AL := AL_in (T7 (List.mem_of_getElem? (i := 218) rfl)) rfl
theorem kL_349 : Cond.methodLink RL 349 yX9_undoCount ∈ AL ∧ Cond.instanceMethod yX9_undoCount ∈ AL ∧ Cond.selects mX9_undoCount.1.cls yX9_undoCount yX9_undoCount ∈ AL := ⟨w7_216, w7_217, w7_218⟩
theorem w7_220 : Cond.methodLink RL 353 yX9_save ∈ AL := AL_in (T7 (List.mem_of_getElem? (i := 220) rfl)) rfl
theorem w7_221 : Cond.instanceMethod yX9_save ∈ AL := AL_in (T7 (List.mem_of_getElem? (i := 221) rfl)) rfl
theorem w7_222 : Cond.selects RX9 yX9_save yX9_save ∈ AL := AL_in (T7 (List.mem_of_getElem? (i := 222) rfl)) rfl
theorem kL_353 : Cond.methodLink RL 353 yX9_save ∈ AL ∧ Cond.instanceMethod yX9_save ∈ AL ∧ Cond.selects mX9_save.1.cls yX9_save yX9_save ∈ AL := ⟨w7_220, w7_221, w7_222⟩
theorem w7_224 : Cond.methodLink RL 356 yX9_restore ∈ AL := AL_in (T7 (List.mem_of_getElem? (i := 224) rfl)) rfl
theorem w7_225 : Cond.instanceMethod yX9_restore ∈ AL := AL_in (T7 (List.mem_of_getElem? (i := 225) rfl)) rfl
theorem w7_226 : Cond.selects RX9 yX9_restore yX9_restore ∈ AL := AL_in (T7 (List.mem_of_getElem? (i := 226) rfl)) rfl
theorem kL_356 : Cond.methodLink RL 356 yX9_restore ∈ AL ∧ Cond.instanceMethod yX9_restore ∈ AL ∧ Cond.selects mX9_restore.1.cls yX9_restore yX9_restore ∈ AL := ⟨w7_224, w7_225, w7_226⟩
theorem w1_40 : Cond.instanceMethod yX4_init ∈ AL := AL_in (T1 (List.mem_of_getElem? (i := 40) rfl)) rfl
theorem kX8_11 : (RX8, 11, yX4_init, "SofaRailway") ∈ SFM ∧ Cond.instanceMethod yX4_init ∈ AL := ⟨List.mem_of_getElem? (i := 0) rfl, w1_40⟩
theorem kX3_24 : (RX3, 24, yX4_init, "SofaRailway") ∈ SFM ∧ Cond.instanceMethod yX4_init ∈ AL := ⟨List.mem_of_getElem? (i := 1) rfl, w1_40⟩
theorem w1_142 : Cond.instanceMethod yX6_init ∈ AL := AL_in (T1 (List.mem_of_getElem? (i := 142) rfl)) rfl
theorem kX8_31 : (RX8, 31, yX6_init, "SofaRailway") ∈ SFM ∧ Cond.instanceMethod yX6_init ∈ AL := ⟨List.mem_of_getElem? (i := 2) rfl, w1_142⟩
theorem w1_161 : Cond.instanceMethod yX7_init ∈ AL := AL_in (T1 (List.mem_of_getElem? (i := 161) rfl)) rfl
theorem kX8_38 : (RX8, 38, yX7_init, "SofaRailway") ∈ SFM ∧ Cond.instanceMethod yX7_init ∈ AL := ⟨List.mem_of_getElem? (i := 3) rfl, w1_161⟩
theorem kX7_11 : (RX7, 11, yX6_init, "SofaRailway") ∈ SFM ∧ Cond.instanceMethod yX6_init ∈ AL := ⟨List.mem_of_getElem? (i := 4) rfl, w1_142⟩
theorem w1_179 : Cond.instanceMethod yX2_init ∈ AL := AL_in (T1 (List.mem_of_getElem? (i := 179) rfl)) rfl
theorem kX8_45 : (RX8, 45, yX2_init, "SofaRailway") ∈ SFM ∧ Cond.instanceMethod yX2_init ∈ AL := ⟨List.mem_of_getElem? (i := 5) rfl, w1_179⟩
theorem w1_214 : Cond.instanceMethod yX5_init ∈ AL := AL_in (T1 (List.mem_of_getElem? (i := 214) rfl)) rfl
theorem kX8_52 : (RX8, 52, yX5_init, "SofaRailway") ∈ SFM ∧ Cond.instanceMethod yX5_init ∈ AL := ⟨List.mem_of_getElem? (i := 6) rfl, w1_214⟩
theorem kX6_37 : (RX6, 37, yX8_has, "SofaRailway") ∈ SFM ∧ Cond.static yX8_has ∈ AL := ⟨List.mem_of_getElem? (i := 7) rfl, w2_33⟩
theorem kX4_64 : (RX4, 64, yX8_has, "SofaRailway") ∈ SFM ∧ Cond.static yX8_has ∈ AL := ⟨List.mem_of_getElem? (i := 8) rfl, w2_33⟩
theorem kX7_38 : (RX7, 38, yX8_has, "SofaRailway") ∈ SFM ∧ Cond.static yX8_has ∈ AL := ⟨List.mem_of_getElem? (i := 9) rfl, w2_33⟩
theorem w1_195 : Cond.laysFinal RX2 "SofaRailway$CommandReader" "text" "[C" ∈ AL := AL_in (T1 (List.mem_of_getElem? (i := 195) rfl)) rfl
theorem w1_197 : Cond.lays RX2 "SofaRailway$CommandReader" "size" "I" ∈ AL := AL_in (T1 (List.mem_of_getElem? (i := 197) rfl)) rfl
theorem w1_199 : Cond.lays RX2 "SofaRailway$CommandReader" "position" "I" ∈ AL := AL_in (T1 (List.mem_of_getElem? (i := 199) rfl)) rfl
theorem w1_201 : Cond.lays RX2 "SofaRailway$CommandReader" "ended" "Z" ∈ AL := AL_in (T1 (List.mem_of_getElem? (i := 201) rfl)) rfl
theorem w1_203 : Cond.lays RX2 "SofaRailway$CommandReader" "command" "LSofaRailway$Command;" ∈ AL := AL_in (T1 (List.mem_of_getElem? (i := 203) rfl)) rfl
theorem w1_205 : Cond.lays RX2 "SofaRailway$CommandReader" "first" "I" ∈ AL := AL_in (T1 (List.mem_of_getElem? (i := 205) rfl)) rfl
theorem w1_207 : Cond.lays RX2 "SofaRailway$CommandReader" "second" "I" ∈ AL := AL_in (T1 (List.mem_of_getElem? (i := 207) rfl)) rfl
theorem uwX2 : ∀ w ∈ u_ws RX2 TX2 7, w ∈ AL := List.forall_mem_cons.mpr ⟨w1_195, List.forall_mem_cons.mpr ⟨w1_197, List.forall_mem_cons.mpr ⟨w1_199, List.forall_mem_cons.mpr ⟨w1_201, List.forall_mem_cons.mpr ⟨w1_203, List.forall_mem_cons.mpr ⟨w1_205, List.forall_mem_cons.mpr ⟨w1_207, fun _ h => absurd h List.not_mem_nil⟩⟩⟩⟩⟩⟩⟩
theorem w1_132 : Cond.laysFinal RX3 "SofaRailway$History" "slots" "[LSofaRailway$Layout;" ∈ AL := AL_in (T1 (List.mem_of_getElem? (i := 132) rfl)) rfl
theorem w1_134 : Cond.lays RX3 "SofaRailway$History" "next" "I" ∈ AL := AL_in (T1 (List.mem_of_getElem? (i := 134) rfl)) rfl
theorem w1_136 : Cond.lays RX3 "SofaRailway$History" "count" "I" ∈ AL := AL_in (T1 (List.mem_of_getElem? (i := 136) rfl)) rfl
theorem uwX3 : ∀ w ∈ u_ws RX3 TX3 3, w ∈ AL := List.forall_mem_cons.mpr ⟨w1_132, List.forall_mem_cons.mpr ⟨w1_134, List.forall_mem_cons.mpr ⟨w1_136, fun _ h => absurd h List.not_mem_nil⟩⟩⟩
theorem w1_87 : Cond.lays RX4 "SofaRailway$Layout" "blocks" "I" ∈ AL := AL_in (T1 (List.mem_of_getElem? (i := 87) rfl)) rfl
theorem w1_89 : Cond.lays RX4 "SofaRailway$Layout" "trains" "I" ∈ AL := AL_in (T1 (List.mem_of_getElem? (i := 89) rfl)) rfl
theorem w1_91 : Cond.lays RX4 "SofaRailway$Layout" "ticks" "I" ∈ AL := AL_in (T1 (List.mem_of_getElem? (i := 91) rfl)) rfl
theorem w1_93 : Cond.lays RX4 "SofaRailway$Layout" "arrivals" "I" ∈ AL := AL_in (T1 (List.mem_of_getElem? (i := 93) rfl)) rfl
theorem w1_95 : Cond.lays RX4 "SofaRailway$Layout" "cushions" "I" ∈ AL := AL_in (T1 (List.mem_of_getElem? (i := 95) rfl)) rfl
theorem w1_97 : Cond.lays RX4 "SofaRailway$Layout" "cats" "I" ∈ AL := AL_in (T1 (List.mem_of_getElem? (i := 97) rfl)) rfl
theorem w1_99 : Cond.lays RX4 "SofaRailway$Layout" "derailed" "I" ∈ AL := AL_in (T1 (List.mem_of_getElem? (i := 99) rfl)) rfl
theorem w1_101 : Cond.laysFinal RX4 "SofaRailway$Layout" "lengths" "[I" ∈ AL := AL_in (T1 (List.mem_of_getElem? (i := 101) rfl)) rfl
theorem w1_103 : Cond.laysFinal RX4 "SofaRailway$Layout" "links" "[I" ∈ AL := AL_in (T1 (List.mem_of_getElem? (i := 103) rfl)) rfl
theorem w1_105 : Cond.laysFinal RX4 "SofaRailway$Layout" "places" "[I" ∈ AL := AL_in (T1 (List.mem_of_getElem? (i := 105) rfl)) rfl
theorem w1_107 : Cond.laysFinal RX4 "SofaRailway$Layout" "priorities" "[I" ∈ AL := AL_in (T1 (List.mem_of_getElem? (i := 107) rfl)) rfl
theorem w1_109 : Cond.laysFinal RX4 "SofaRailway$Layout" "remaining" "[I" ∈ AL := AL_in (T1 (List.mem_of_getElem? (i := 109) rfl)) rfl
theorem w1_111 : Cond.laysFinal RX4 "SofaRailway$Layout" "goals" "[I" ∈ AL := AL_in (T1 (List.mem_of_getElem? (i := 111) rfl)) rfl
theorem w1_113 : Cond.laysFinal RX4 "SofaRailway$Layout" "holds" "[I" ∈ AL := AL_in (T1 (List.mem_of_getElem? (i := 113) rfl)) rfl
theorem w1_115 : Cond.laysFinal RX4 "SofaRailway$Layout" "waits" "[I" ∈ AL := AL_in (T1 (List.mem_of_getElem? (i := 115) rfl)) rfl
theorem uwX4 : ∀ w ∈ u_ws RX4 TX4 15, w ∈ AL := List.forall_mem_cons.mpr ⟨w1_87, List.forall_mem_cons.mpr ⟨w1_89, List.forall_mem_cons.mpr ⟨w1_91, List.forall_mem_cons.mpr ⟨w1_93, List.forall_mem_cons.mpr ⟨w1_95, List.forall_mem_cons.mpr ⟨w1_97, List.forall_mem_cons.mpr ⟨w1_99, List.forall_mem_cons.mpr ⟨w1_101, List.forall_mem_cons.mpr ⟨w1_103, List.forall_mem_cons.mpr ⟨w1_105, List.forall_mem_cons.mpr ⟨w1_107, List.forall_mem_cons.mpr ⟨w1_109, List.forall_mem_cons.mpr ⟨w1_111, List.forall_mem_cons.mpr ⟨w1_113, List.forall_mem_cons.mpr ⟨w1_115, fun _ h => absurd h List.not_mem_nil⟩⟩⟩⟩⟩⟩⟩⟩⟩⟩⟩⟩⟩⟩⟩
theorem w1_221 : Cond.laysFinal RX5 "SofaRailway$Output" "signs" "[C" ∈ AL := AL_in (T1 (List.mem_of_getElem? (i := 221) rfl)) rfl
theorem w1_223 : Cond.lays RX5 "SofaRailway$Output" "size" "I" ∈ AL := AL_in (T1 (List.mem_of_getElem? (i := 223) rfl)) rfl
theorem uwX5 : ∀ w ∈ u_ws RX5 TX5 2, w ∈ AL := List.forall_mem_cons.mpr ⟨w1_221, List.forall_mem_cons.mpr ⟨w1_223, fun _ h => absurd h List.not_mem_nil⟩⟩
theorem w1_151 : Cond.laysFinal RX6 "SofaRailway$Routes" "byNearest" "[I" ∈ AL := AL_in (T1 (List.mem_of_getElem? (i := 151) rfl)) rfl
theorem w1_153 : Cond.laysFinal RX6 "SofaRailway$Routes" "byRounds" "[I" ∈ AL := AL_in (T1 (List.mem_of_getElem? (i := 153) rfl)) rfl
theorem w1_155 : Cond.laysFinal RX6 "SofaRailway$Routes" "groups" "[I" ∈ AL := AL_in (T1 (List.mem_of_getElem? (i := 155) rfl)) rfl
theorem uwX6 : ∀ w ∈ u_ws RX6 TX6 3, w ∈ AL := List.forall_mem_cons.mpr ⟨w1_151, List.forall_mem_cons.mpr ⟨w1_153, List.forall_mem_cons.mpr ⟨w1_155, fun _ h => absurd h List.not_mem_nil⟩⟩⟩
theorem w1_169 : Cond.laysFinal RX7 "SofaRailway$Traffic" "routes" "LSofaRailway$Routes;" ∈ AL := AL_in (T1 (List.mem_of_getElem? (i := 169) rfl)) rfl
theorem w1_171 : Cond.laysFinal RX7 "SofaRailway$Traffic" "blockers" "[I" ∈ AL := AL_in (T1 (List.mem_of_getElem? (i := 171) rfl)) rfl
theorem w1_173 : Cond.laysFinal RX7 "SofaRailway$Traffic" "table" "[I" ∈ AL := AL_in (T1 (List.mem_of_getElem? (i := 173) rfl)) rfl
theorem uwX7 : ∀ w ∈ u_ws RX7 TX7 3, w ∈ AL := List.forall_mem_cons.mpr ⟨w1_169, List.forall_mem_cons.mpr ⟨w1_171, List.forall_mem_cons.mpr ⟨w1_173, fun _ h => absurd h List.not_mem_nil⟩⟩⟩
theorem w1_237 : Cond.laysFinal RX8 "SofaRailway" "now" "LSofaRailway$Layout;" ∈ AL := AL_in (T1 (List.mem_of_getElem? (i := 237) rfl)) rfl
theorem w1_239 : Cond.laysFinal RX8 "SofaRailway" "saved" "LSofaRailway$Layout;" ∈ AL := AL_in (T1 (List.mem_of_getElem? (i := 239) rfl)) rfl
theorem w2_1 : Cond.laysFinal RX8 "SofaRailway" "forecast" "LSofaRailway$Layout;" ∈ AL := AL_in (T2 (List.mem_of_getElem? (i := 1) rfl)) rfl
theorem w2_3 : Cond.laysFinal RX8 "SofaRailway" "history" "LSofaRailway$History;" ∈ AL := AL_in (T2 (List.mem_of_getElem? (i := 3) rfl)) rfl
theorem w2_5 : Cond.laysFinal RX8 "SofaRailway" "routes" "LSofaRailway$Routes;" ∈ AL := AL_in (T2 (List.mem_of_getElem? (i := 5) rfl)) rfl
theorem w2_7 : Cond.laysFinal RX8 "SofaRailway" "traffic" "LSofaRailway$Traffic;" ∈ AL := AL_in (T2 (List.mem_of_getElem? (i := 7) rfl)) rfl
theorem w2_9 : Cond.laysFinal RX8 "SofaRailway" "reader" "LSofaRailway$CommandReader;" ∈ AL := AL_in (T2 (List.mem_of_getElem? (i := 9) rfl)) rfl
theorem w2_11 : Cond.laysFinal RX8 "SofaRailway" "output" "LSofaRailway$Output;" ∈ AL := AL_in (T2 (List.mem_of_getElem? (i := 11) rfl)) rfl
theorem w2_13 : Cond.lays RX8 "SofaRailway" "hasSaved" "Z" ∈ AL := AL_in (T2 (List.mem_of_getElem? (i := 13) rfl)) rfl
theorem w2_15 : Cond.lays RX8 "SofaRailway" "keptErrorPosition" "I" ∈ AL := AL_in (T2 (List.mem_of_getElem? (i := 15) rfl)) rfl
theorem w2_17 : Cond.lays RX8 "SofaRailway" "keptFailedCommand" "I" ∈ AL := AL_in (T2 (List.mem_of_getElem? (i := 17) rfl)) rfl
theorem uwX8 : ∀ w ∈ u_ws RX8 TX8 11, w ∈ AL := List.forall_mem_cons.mpr ⟨w1_237, List.forall_mem_cons.mpr ⟨w1_239, List.forall_mem_cons.mpr ⟨w2_1, List.forall_mem_cons.mpr ⟨w2_3, List.forall_mem_cons.mpr ⟨w2_5, List.forall_mem_cons.mpr ⟨w2_7, List.forall_mem_cons.mpr ⟨w2_9, List.forall_mem_cons.mpr ⟨w2_11, List.forall_mem_cons.mpr ⟨w2_13, List.forall_mem_cons.mpr ⟨w2_15, List.forall_mem_cons.mpr ⟨w2_17, fun _ h => absurd h List.not_mem_nil⟩⟩⟩⟩⟩⟩⟩⟩⟩⟩⟩
theorem w5_226 : Cond.lays RX9 "SofaRailwayModel" "thrown" "I" ∈ AL := AL_in (T5 (List.mem_of_getElem? (i := 226) rfl)) rfl
theorem w5_228 : Cond.laysFinal RX9 "SofaRailwayModel" "s" "[I" ∈ AL := AL_in (T5 (List.mem_of_getElem? (i := 228) rfl)) rfl
theorem w5_230 : Cond.laysFinal RX9 "SofaRailwayModel" "frame" "[I" ∈ AL := AL_in (T5 (List.mem_of_getElem? (i := 230) rfl)) rfl
theorem w5_232 : Cond.laysFinal RX9 "SofaRailwayModel" "saved" "[I" ∈ AL := AL_in (T5 (List.mem_of_getElem? (i := 232) rfl)) rfl
theorem w5_234 : Cond.laysFinal RX9 "SofaRailwayModel" "history" "[I" ∈ AL := AL_in (T5 (List.mem_of_getElem? (i := 234) rfl)) rfl
theorem w5_236 : Cond.laysFinal RX9 "SofaRailwayModel" "thought" "[I" ∈ AL := AL_in (T5 (List.mem_of_getElem? (i := 236) rfl)) rfl
theorem w5_238 : Cond.lays RX9 "SofaRailwayModel" "kept" "I" ∈ AL := AL_in (T5 (List.mem_of_getElem? (i := 238) rfl)) rfl
theorem w6_0 : Cond.lays RX9 "SofaRailwayModel" "hasSaved" "Z" ∈ AL := AL_in (T6 (List.mem_of_getElem? (i := 0) rfl)) rfl
theorem w6_2 : Cond.laysFinal RX9 "SofaRailwayModel" "text" "[I" ∈ AL := AL_in (T6 (List.mem_of_getElem? (i := 2) rfl)) rfl
theorem w6_4 : Cond.laysFinal RX9 "SofaRailwayModel" "told" "[I" ∈ AL := AL_in (T6 (List.mem_of_getElem? (i := 4) rfl)) rfl
theorem w6_6 : Cond.laysFinal RX9 "SofaRailwayModel" "out" "[I" ∈ AL := AL_in (T6 (List.mem_of_getElem? (i := 6) rfl)) rfl
theorem w6_8 : Cond.laysFinal RX9 "SofaRailwayModel" "far" "[I" ∈ AL := AL_in (T6 (List.mem_of_getElem? (i := 8) rfl)) rfl
theorem w6_10 : Cond.laysFinal RX9 "SofaRailwayModel" "mark" "[I" ∈ AL := AL_in (T6 (List.mem_of_getElem? (i := 10) rfl)) rfl
theorem w6_12 : Cond.lays RX9 "SofaRailwayModel" "fed" "I" ∈ AL := AL_in (T6 (List.mem_of_getElem? (i := 12) rfl)) rfl
theorem w6_14 : Cond.lays RX9 "SofaRailwayModel" "outLength" "I" ∈ AL := AL_in (T6 (List.mem_of_getElem? (i := 14) rfl)) rfl
theorem w6_16 : Cond.lays RX9 "SofaRailwayModel" "faultAt" "I" ∈ AL := AL_in (T6 (List.mem_of_getElem? (i := 16) rfl)) rfl
theorem w6_18 : Cond.lays RX9 "SofaRailwayModel" "failedAt" "I" ∈ AL := AL_in (T6 (List.mem_of_getElem? (i := 18) rfl)) rfl
theorem w6_20 : Cond.lays RX9 "SofaRailwayModel" "answer" "I" ∈ AL := AL_in (T6 (List.mem_of_getElem? (i := 20) rfl)) rfl
theorem w6_22 : Cond.lays RX9 "SofaRailwayModel" "spot" "I" ∈ AL := AL_in (T6 (List.mem_of_getElem? (i := 22) rfl)) rfl
theorem w6_24 : Cond.lays RX9 "SofaRailwayModel" "end" "I" ∈ AL := AL_in (T6 (List.mem_of_getElem? (i := 24) rfl)) rfl
theorem w6_26 : Cond.lays RX9 "SofaRailwayModel" "commands" "I" ∈ AL := AL_in (T6 (List.mem_of_getElem? (i := 26) rfl)) rfl
theorem w6_28 : Cond.lays RX9 "SofaRailwayModel" "isWrong" "Z" ∈ AL := AL_in (T6 (List.mem_of_getElem? (i := 28) rfl)) rfl
theorem uwX9 : ∀ w ∈ u_ws RX9 TX9 22, w ∈ AL := List.forall_mem_cons.mpr ⟨w5_226, List.forall_mem_cons.mpr ⟨w5_228, List.forall_mem_cons.mpr ⟨w5_230, List.forall_mem_cons.mpr ⟨w5_232, List.forall_mem_cons.mpr ⟨w5_234, List.forall_mem_cons.mpr ⟨w5_236, List.forall_mem_cons.mpr ⟨w5_238, List.forall_mem_cons.mpr ⟨w6_0, List.forall_mem_cons.mpr ⟨w6_2, List.forall_mem_cons.mpr ⟨w6_4, List.forall_mem_cons.mpr ⟨w6_6, List.forall_mem_cons.mpr ⟨w6_8, List.forall_mem_cons.mpr ⟨w6_10, List.forall_mem_cons.mpr ⟨w6_12, List.forall_mem_cons.mpr ⟨w6_14, List.forall_mem_cons.mpr ⟨w6_16, List.forall_mem_cons.mpr ⟨w6_18, List.forall_mem_cons.mpr ⟨w6_20, List.forall_mem_cons.mpr ⟨w6_22, List.forall_mem_cons.mpr ⟨w6_24, List.forall_mem_cons.mpr ⟨w6_26, List.forall_mem_cons.mpr ⟨w6_28, fun _ h => absurd h List.not_mem_nil⟩⟩⟩⟩⟩⟩⟩⟩⟩⟩⟩⟩⟩⟩⟩⟩⟩⟩⟩⟩⟩⟩
theorem w1_43 : Cond.fieldLink RX4 9 "SofaRailway$Layout" "blocks" "I" ∈ AL := AL_in (T1 (List.mem_of_getElem? (i := 43) rfl)) rfl
theorem fX4_9 : FL RX4 9 4 0 .int 0 := ⟨RX4, TX4, 15, tyX4, rfl, by decide, uwX4, tyX4_ok, nmX4, w1_43, rfl, Or.inl ⟨rfl, rfl⟩⟩
theorem w1_44 : Cond.fieldLink RX6 21 "SofaRailway$Layout" "blocks" "I" ∈ AL := AL_in (T1 (List.mem_of_getElem? (i := 44) rfl)) rfl
theorem fX6_21 : FL RX6 21 4 0 .int 0 := ⟨RX4, TX4, 15, tyX4, rfl, by decide, uwX4, tyX4_ok, nmX4, w1_44, rfl, Or.inl ⟨rfl, rfl⟩⟩
theorem w1_45 : Cond.fieldLink RX8 93 "SofaRailway$Layout" "blocks" "I" ∈ AL := AL_in (T1 (List.mem_of_getElem? (i := 45) rfl)) rfl
theorem fX8_93 : FL RX8 93 4 0 .int 0 := ⟨RX4, TX4, 15, tyX4, rfl, by decide, uwX4, tyX4_ok, nmX4, w1_45, rfl, Or.inl ⟨rfl, rfl⟩⟩
theorem w1_46 : Cond.fieldLink RX4 15 "SofaRailway$Layout" "trains" "I" ∈ AL := AL_in (T1 (List.mem_of_getElem? (i := 46) rfl)) rfl
theorem fX4_15 : FL RX4 15 4 1 .int 0 := ⟨RX4, TX4, 15, tyX4, rfl, by decide, uwX4, tyX4_ok, nmX4, w1_46, rfl, Or.inl ⟨rfl, rfl⟩⟩
theorem w1_47 : Cond.fieldLink RX7 58 "SofaRailway$Layout" "trains" "I" ∈ AL := AL_in (T1 (List.mem_of_getElem? (i := 47) rfl)) rfl
theorem fX7_58 : FL RX7 58 4 1 .int 0 := ⟨RX4, TX4, 15, tyX4, rfl, by decide, uwX4, tyX4_ok, nmX4, w1_47, rfl, Or.inl ⟨rfl, rfl⟩⟩
theorem w1_48 : Cond.fieldLink RX8 187 "SofaRailway$Layout" "trains" "I" ∈ AL := AL_in (T1 (List.mem_of_getElem? (i := 48) rfl)) rfl
theorem fX8_187 : FL RX8 187 4 1 .int 0 := ⟨RX4, TX4, 15, tyX4, rfl, by decide, uwX4, tyX4_ok, nmX4, w1_48, rfl, Or.inl ⟨rfl, rfl⟩⟩
theorem w1_49 : Cond.fieldLink RX4 18 "SofaRailway$Layout" "ticks" "I" ∈ AL := AL_in (T1 (List.mem_of_getElem? (i := 49) rfl)) rfl
theorem fX4_18 : FL RX4 18 4 2 .int 0 := ⟨RX4, TX4, 15, tyX4, rfl, by decide, uwX4, tyX4_ok, nmX4, w1_49, rfl, Or.inl ⟨rfl, rfl⟩⟩
theorem w1_50 : Cond.fieldLink RX7 68 "SofaRailway$Layout" "ticks" "I" ∈ AL := AL_in (T1 (List.mem_of_getElem? (i := 50) rfl)) rfl
theorem fX7_68 : FL RX7 68 4 2 .int 0 := ⟨RX4, TX4, 15, tyX4, rfl, by decide, uwX4, tyX4_ok, nmX4, w1_50, rfl, Or.inl ⟨rfl, rfl⟩⟩
theorem w1_51 : Cond.fieldLink RX8 223 "SofaRailway$Layout" "ticks" "I" ∈ AL := AL_in (T1 (List.mem_of_getElem? (i := 51) rfl)) rfl
theorem fX8_223 : FL RX8 223 4 2 .int 0 := ⟨RX4, TX4, 15, tyX4, rfl, by decide, uwX4, tyX4_ok, nmX4, w1_51, rfl, Or.inl ⟨rfl, rfl⟩⟩
theorem w1_52 : Cond.fieldLink RX4 21 "SofaRailway$Layout" "arrivals" "I" ∈ AL := AL_in (T1 (List.mem_of_getElem? (i := 52) rfl)) rfl
theorem fX4_21 : FL RX4 21 4 3 .int 0 := ⟨RX4, TX4, 15, tyX4, rfl, by decide, uwX4, tyX4_ok, nmX4, w1_52, rfl, Or.inl ⟨rfl, rfl⟩⟩
theorem w1_53 : Cond.fieldLink RX7 55 "SofaRailway$Layout" "arrivals" "I" ∈ AL := AL_in (T1 (List.mem_of_getElem? (i := 53) rfl)) rfl
theorem fX7_55 : FL RX7 55 4 3 .int 0 := ⟨RX4, TX4, 15, tyX4, rfl, by decide, uwX4, tyX4_ok, nmX4, w1_53, rfl, Or.inl ⟨rfl, rfl⟩⟩
theorem w1_54 : Cond.fieldLink RX8 226 "SofaRailway$Layout" "arrivals" "I" ∈ AL := AL_in (T1 (List.mem_of_getElem? (i := 54) rfl)) rfl
theorem fX8_226 : FL RX8 226 4 3 .int 0 := ⟨RX4, TX4, 15, tyX4, rfl, by decide, uwX4, tyX4_ok, nmX4, w1_54, rfl, Or.inl ⟨rfl, rfl⟩⟩
theorem w1_55 : Cond.fieldLink RX4 24 "SofaRailway$Layout" "cushions" "I" ∈ AL := AL_in (T1 (List.mem_of_getElem? (i := 55) rfl)) rfl
theorem fX4_24 : FL RX4 24 4 4 .int 0 := ⟨RX4, TX4, 15, tyX4, rfl, by decide, uwX4, tyX4_ok, nmX4, w1_55, rfl, Or.inl ⟨rfl, rfl⟩⟩
theorem w1_56 : Cond.fieldLink RX7 34 "SofaRailway$Layout" "cushions" "I" ∈ AL := AL_in (T1 (List.mem_of_getElem? (i := 56) rfl)) rfl
theorem fX7_34 : FL RX7 34 4 4 .int 0 := ⟨RX4, TX4, 15, tyX4, rfl, by decide, uwX4, tyX4_ok, nmX4, w1_56, rfl, Or.inl ⟨rfl, rfl⟩⟩
theorem w1_57 : Cond.fieldLink RX6 61 "SofaRailway$Layout" "cushions" "I" ∈ AL := AL_in (T1 (List.mem_of_getElem? (i := 57) rfl)) rfl
theorem fX6_61 : FL RX6 61 4 4 .int 0 := ⟨RX4, TX4, 15, tyX4, rfl, by decide, uwX4, tyX4_ok, nmX4, w1_57, rfl, Or.inl ⟨rfl, rfl⟩⟩
theorem w1_58 : Cond.fieldLink RX8 104 "SofaRailway$Layout" "cushions" "I" ∈ AL := AL_in (T1 (List.mem_of_getElem? (i := 58) rfl)) rfl
theorem fX8_104 : FL RX8 104 4 4 .int 0 := ⟨RX4, TX4, 15, tyX4, rfl, by decide, uwX4, tyX4_ok, nmX4, w1_58, rfl, Or.inl ⟨rfl, rfl⟩⟩
theorem w1_59 : Cond.fieldLink RX4 27 "SofaRailway$Layout" "cats" "I" ∈ AL := AL_in (T1 (List.mem_of_getElem? (i := 59) rfl)) rfl
theorem fX4_27 : FL RX4 27 4 5 .int 0 := ⟨RX4, TX4, 15, tyX4, rfl, by decide, uwX4, tyX4_ok, nmX4, w1_59, rfl, Or.inl ⟨rfl, rfl⟩⟩
theorem w1_60 : Cond.fieldLink RX8 111 "SofaRailway$Layout" "cats" "I" ∈ AL := AL_in (T1 (List.mem_of_getElem? (i := 60) rfl)) rfl
theorem fX8_111 : FL RX8 111 4 5 .int 0 := ⟨RX4, TX4, 15, tyX4, rfl, by decide, uwX4, tyX4_ok, nmX4, w1_60, rfl, Or.inl ⟨rfl, rfl⟩⟩
theorem w1_61 : Cond.fieldLink RX4 30 "SofaRailway$Layout" "derailed" "I" ∈ AL := AL_in (T1 (List.mem_of_getElem? (i := 61) rfl)) rfl
theorem fX4_30 : FL RX4 30 4 6 .int 0 := ⟨RX4, TX4, 15, tyX4, rfl, by decide, uwX4, tyX4_ok, nmX4, w1_61, rfl, Or.inl ⟨rfl, rfl⟩⟩
theorem w1_62 : Cond.fieldLink RX7 71 "SofaRailway$Layout" "derailed" "I" ∈ AL := AL_in (T1 (List.mem_of_getElem? (i := 62) rfl)) rfl
theorem fX7_71 : FL RX7 71 4 6 .int 0 := ⟨RX4, TX4, 15, tyX4, rfl, by decide, uwX4, tyX4_ok, nmX4, w1_62, rfl, Or.inl ⟨rfl, rfl⟩⟩
theorem w1_63 : Cond.fieldLink RX8 202 "SofaRailway$Layout" "derailed" "I" ∈ AL := AL_in (T1 (List.mem_of_getElem? (i := 63) rfl)) rfl
theorem fX8_202 : FL RX8 202 4 6 .int 0 := ⟨RX4, TX4, 15, tyX4, rfl, by decide, uwX4, tyX4_ok, nmX4, w1_63, rfl, Or.inl ⟨rfl, rfl⟩⟩
theorem w1_64 : Cond.fieldLink RX4 33 "SofaRailway$Layout" "lengths" "[I" ∈ AL := AL_in (T1 (List.mem_of_getElem? (i := 64) rfl)) rfl
theorem fX4_33 : FL RX4 33 4 7 (.array .int) 1 := ⟨RX4, TX4, 15, tyX4, rfl, by decide, uwX4, tyX4_ok, nmX4, w1_64, rfl, Or.inr (Or.inl ⟨rfl, rfl, rfl⟩)⟩
theorem w1_65 : Cond.fieldLink RX6 31 "SofaRailway$Layout" "lengths" "[I" ∈ AL := AL_in (T1 (List.mem_of_getElem? (i := 65) rfl)) rfl
theorem fX6_31 : FL RX6 31 4 7 (.array .int) 2 := ⟨RX4, TX4, 15, tyX4, rfl, by decide, uwX4, tyX4_ok, nmX4, w1_65, rfl, Or.inr (Or.inr rfl)⟩
theorem w1_66 : Cond.fieldLink RX8 100 "SofaRailway$Layout" "lengths" "[I" ∈ AL := AL_in (T1 (List.mem_of_getElem? (i := 66) rfl)) rfl
theorem fX8_100 : FL RX8 100 4 7 (.array .int) 2 := ⟨RX4, TX4, 15, tyX4, rfl, by decide, uwX4, tyX4_ok, nmX4, w1_66, rfl, Or.inr (Or.inr rfl)⟩
theorem w1_67 : Cond.fieldLink RX4 37 "SofaRailway$Layout" "links" "[I" ∈ AL := AL_in (T1 (List.mem_of_getElem? (i := 67) rfl)) rfl
theorem fX4_37 : FL RX4 37 4 8 (.array .int) 1 := ⟨RX4, TX4, 15, tyX4, rfl, by decide, uwX4, tyX4_ok, nmX4, w1_67, rfl, Or.inr (Or.inl ⟨rfl, rfl, rfl⟩)⟩
theorem w1_68 : Cond.fieldLink RX6 34 "SofaRailway$Layout" "links" "[I" ∈ AL := AL_in (T1 (List.mem_of_getElem? (i := 68) rfl)) rfl
theorem fX6_34 : FL RX6 34 4 8 (.array .int) 2 := ⟨RX4, TX4, 15, tyX4, rfl, by decide, uwX4, tyX4_ok, nmX4, w1_68, rfl, Or.inr (Or.inr rfl)⟩
theorem w1_69 : Cond.fieldLink RX8 117 "SofaRailway$Layout" "links" "[I" ∈ AL := AL_in (T1 (List.mem_of_getElem? (i := 69) rfl)) rfl
theorem fX8_117 : FL RX8 117 4 8 (.array .int) 2 := ⟨RX4, TX4, 15, tyX4, rfl, by decide, uwX4, tyX4_ok, nmX4, w1_69, rfl, Or.inr (Or.inr rfl)⟩
theorem w1_70 : Cond.fieldLink RX4 40 "SofaRailway$Layout" "places" "[I" ∈ AL := AL_in (T1 (List.mem_of_getElem? (i := 70) rfl)) rfl
theorem fX4_40 : FL RX4 40 4 9 (.array .int) 1 := ⟨RX4, TX4, 15, tyX4, rfl, by decide, uwX4, tyX4_ok, nmX4, w1_70, rfl, Or.inr (Or.inl ⟨rfl, rfl, rfl⟩)⟩
theorem w1_71 : Cond.fieldLink RX7 42 "SofaRailway$Layout" "places" "[I" ∈ AL := AL_in (T1 (List.mem_of_getElem? (i := 71) rfl)) rfl
theorem fX7_42 : FL RX7 42 4 9 (.array .int) 2 := ⟨RX4, TX4, 15, tyX4, rfl, by decide, uwX4, tyX4_ok, nmX4, w1_71, rfl, Or.inr (Or.inr rfl)⟩
theorem w1_72 : Cond.fieldLink RX6 58 "SofaRailway$Layout" "places" "[I" ∈ AL := AL_in (T1 (List.mem_of_getElem? (i := 72) rfl)) rfl
theorem fX6_58 : FL RX6 58 4 9 (.array .int) 2 := ⟨RX4, TX4, 15, tyX4, rfl, by decide, uwX4, tyX4_ok, nmX4, w1_72, rfl, Or.inr (Or.inr rfl)⟩
theorem w1_73 : Cond.fieldLink RX8 190 "SofaRailway$Layout" "places" "[I" ∈ AL := AL_in (T1 (List.mem_of_getElem? (i := 73) rfl)) rfl
theorem fX8_190 : FL RX8 190 4 9 (.array .int) 2 := ⟨RX4, TX4, 15, tyX4, rfl, by decide, uwX4, tyX4_ok, nmX4, w1_73, rfl, Or.inr (Or.inr rfl)⟩
theorem w1_74 : Cond.fieldLink RX4 43 "SofaRailway$Layout" "priorities" "[I" ∈ AL := AL_in (T1 (List.mem_of_getElem? (i := 74) rfl)) rfl
theorem fX4_43 : FL RX4 43 4 10 (.array .int) 1 := ⟨RX4, TX4, 15, tyX4, rfl, by decide, uwX4, tyX4_ok, nmX4, w1_74, rfl, Or.inr (Or.inl ⟨rfl, rfl, rfl⟩)⟩
theorem w1_75 : Cond.fieldLink RX8 193 "SofaRailway$Layout" "priorities" "[I" ∈ AL := AL_in (T1 (List.mem_of_getElem? (i := 75) rfl)) rfl
theorem fX8_193 : FL RX8 193 4 10 (.array .int) 2 := ⟨RX4, TX4, 15, tyX4, rfl, by decide, uwX4, tyX4_ok, nmX4, w1_75, rfl, Or.inr (Or.inr rfl)⟩
theorem w1_76 : Cond.fieldLink RX4 46 "SofaRailway$Layout" "remaining" "[I" ∈ AL := AL_in (T1 (List.mem_of_getElem? (i := 76) rfl)) rfl
theorem fX4_46 : FL RX4 46 4 11 (.array .int) 1 := ⟨RX4, TX4, 15, tyX4, rfl, by decide, uwX4, tyX4_ok, nmX4, w1_76, rfl, Or.inr (Or.inl ⟨rfl, rfl, rfl⟩)⟩
theorem w1_77 : Cond.fieldLink RX7 74 "SofaRailway$Layout" "remaining" "[I" ∈ AL := AL_in (T1 (List.mem_of_getElem? (i := 77) rfl)) rfl
theorem fX7_74 : FL RX7 74 4 11 (.array .int) 2 := ⟨RX4, TX4, 15, tyX4, rfl, by decide, uwX4, tyX4_ok, nmX4, w1_77, rfl, Or.inr (Or.inr rfl)⟩
theorem w1_78 : Cond.fieldLink RX8 196 "SofaRailway$Layout" "remaining" "[I" ∈ AL := AL_in (T1 (List.mem_of_getElem? (i := 78) rfl)) rfl
theorem fX8_196 : FL RX8 196 4 11 (.array .int) 2 := ⟨RX4, TX4, 15, tyX4, rfl, by decide, uwX4, tyX4_ok, nmX4, w1_78, rfl, Or.inr (Or.inr rfl)⟩
theorem w1_79 : Cond.fieldLink RX4 49 "SofaRailway$Layout" "goals" "[I" ∈ AL := AL_in (T1 (List.mem_of_getElem? (i := 79) rfl)) rfl
theorem fX4_49 : FL RX4 49 4 12 (.array .int) 1 := ⟨RX4, TX4, 15, tyX4, rfl, by decide, uwX4, tyX4_ok, nmX4, w1_79, rfl, Or.inr (Or.inl ⟨rfl, rfl, rfl⟩)⟩
theorem w1_80 : Cond.fieldLink RX7 52 "SofaRailway$Layout" "goals" "[I" ∈ AL := AL_in (T1 (List.mem_of_getElem? (i := 80) rfl)) rfl
theorem fX7_52 : FL RX7 52 4 12 (.array .int) 2 := ⟨RX4, TX4, 15, tyX4, rfl, by decide, uwX4, tyX4_ok, nmX4, w1_80, rfl, Or.inr (Or.inr rfl)⟩
theorem w1_81 : Cond.fieldLink RX6 55 "SofaRailway$Layout" "goals" "[I" ∈ AL := AL_in (T1 (List.mem_of_getElem? (i := 81) rfl)) rfl
theorem fX6_55 : FL RX6 55 4 12 (.array .int) 2 := ⟨RX4, TX4, 15, tyX4, rfl, by decide, uwX4, tyX4_ok, nmX4, w1_81, rfl, Or.inr (Or.inr rfl)⟩
theorem w1_82 : Cond.fieldLink RX8 199 "SofaRailway$Layout" "goals" "[I" ∈ AL := AL_in (T1 (List.mem_of_getElem? (i := 82) rfl)) rfl
theorem fX8_199 : FL RX8 199 4 12 (.array .int) 2 := ⟨RX4, TX4, 15, tyX4, rfl, by decide, uwX4, tyX4_ok, nmX4, w1_82, rfl, Or.inr (Or.inr rfl)⟩
theorem w1_83 : Cond.fieldLink RX4 52 "SofaRailway$Layout" "holds" "[I" ∈ AL := AL_in (T1 (List.mem_of_getElem? (i := 83) rfl)) rfl
theorem fX4_52 : FL RX4 52 4 13 (.array .int) 1 := ⟨RX4, TX4, 15, tyX4, rfl, by decide, uwX4, tyX4_ok, nmX4, w1_83, rfl, Or.inr (Or.inl ⟨rfl, rfl, rfl⟩)⟩
theorem w1_84 : Cond.fieldLink RX4 55 "SofaRailway$Layout" "waits" "[I" ∈ AL := AL_in (T1 (List.mem_of_getElem? (i := 84) rfl)) rfl
theorem fX4_55 : FL RX4 55 4 14 (.array .int) 1 := ⟨RX4, TX4, 15, tyX4, rfl, by decide, uwX4, tyX4_ok, nmX4, w1_84, rfl, Or.inr (Or.inl ⟨rfl, rfl, rfl⟩)⟩
theorem w1_85 : Cond.fieldLink RX7 88 "SofaRailway$Layout" "waits" "[I" ∈ AL := AL_in (T1 (List.mem_of_getElem? (i := 85) rfl)) rfl
theorem fX7_88 : FL RX7 88 4 14 (.array .int) 2 := ⟨RX4, TX4, 15, tyX4, rfl, by decide, uwX4, tyX4_ok, nmX4, w1_85, rfl, Or.inr (Or.inr rfl)⟩
theorem w1_86 : Cond.fieldLink RX8 205 "SofaRailway$Layout" "waits" "[I" ∈ AL := AL_in (T1 (List.mem_of_getElem? (i := 86) rfl)) rfl
theorem fX8_205 : FL RX8 205 4 14 (.array .int) 2 := ⟨RX4, TX4, 15, tyX4, rfl, by decide, uwX4, tyX4_ok, nmX4, w1_86, rfl, Or.inr (Or.inr rfl)⟩
theorem w1_128 : Cond.fieldLink RX3 11 "SofaRailway$History" "slots" "[LSofaRailway$Layout;" ∈ AL := AL_in (T1 (List.mem_of_getElem? (i := 128) rfl)) rfl
theorem fX3_11 : FL RX3 11 3 0 (.array (.object "SofaRailway$Layout")) 1 := ⟨RX3, TX3, 3, tyX3, rfl, by decide, uwX3, tyX3_ok, nmX3, w1_128, rfl, Or.inr (Or.inl ⟨rfl, rfl, rfl⟩)⟩
theorem w1_129 : Cond.fieldLink RX3 17 "SofaRailway$History" "next" "I" ∈ AL := AL_in (T1 (List.mem_of_getElem? (i := 129) rfl)) rfl
theorem fX3_17 : FL RX3 17 3 1 .int 0 := ⟨RX3, TX3, 3, tyX3, rfl, by decide, uwX3, tyX3_ok, nmX3, w1_129, rfl, Or.inl ⟨rfl, rfl⟩⟩
theorem w1_130 : Cond.fieldLink RX3 21 "SofaRailway$History" "count" "I" ∈ AL := AL_in (T1 (List.mem_of_getElem? (i := 130) rfl)) rfl
theorem fX3_21 : FL RX3 21 3 2 .int 0 := ⟨RX3, TX3, 3, tyX3, rfl, by decide, uwX3, tyX3_ok, nmX3, w1_130, rfl, Or.inl ⟨rfl, rfl⟩⟩
theorem w1_131 : Cond.fieldLink RX8 328 "SofaRailway$History" "count" "I" ∈ AL := AL_in (T1 (List.mem_of_getElem? (i := 131) rfl)) rfl
theorem fX8_328 : FL RX8 328 3 2 .int 0 := ⟨RX3, TX3, 3, tyX3, rfl, by decide, uwX3, tyX3_ok, nmX3, w1_131, rfl, Or.inl ⟨rfl, rfl⟩⟩
theorem w1_145 : Cond.fieldLink RX6 9 "SofaRailway$Routes" "byNearest" "[I" ∈ AL := AL_in (T1 (List.mem_of_getElem? (i := 145) rfl)) rfl
theorem fX6_9 : FL RX6 9 6 0 (.array .int) 1 := ⟨RX6, TX6, 3, tyX6, rfl, by decide, uwX6, tyX6_ok, nmX6, w1_145, rfl, Or.inr (Or.inl ⟨rfl, rfl, rfl⟩)⟩
theorem w1_146 : Cond.fieldLink RX7 49 "SofaRailway$Routes" "byNearest" "[I" ∈ AL := AL_in (T1 (List.mem_of_getElem? (i := 146) rfl)) rfl
theorem fX7_49 : FL RX7 49 6 0 (.array .int) 2 := ⟨RX6, TX6, 3, tyX6, rfl, by decide, uwX6, tyX6_ok, nmX6, w1_146, rfl, Or.inr (Or.inr rfl)⟩
theorem w1_147 : Cond.fieldLink RX8 142 "SofaRailway$Routes" "byNearest" "[I" ∈ AL := AL_in (T1 (List.mem_of_getElem? (i := 147) rfl)) rfl
theorem fX8_142 : FL RX8 142 6 0 (.array .int) 2 := ⟨RX6, TX6, 3, tyX6, rfl, by decide, uwX6, tyX6_ok, nmX6, w1_147, rfl, Or.inr (Or.inr rfl)⟩
theorem w1_148 : Cond.fieldLink RX6 15 "SofaRailway$Routes" "byRounds" "[I" ∈ AL := AL_in (T1 (List.mem_of_getElem? (i := 148) rfl)) rfl
theorem fX6_15 : FL RX6 15 6 1 (.array .int) 1 := ⟨RX6, TX6, 3, tyX6, rfl, by decide, uwX6, tyX6_ok, nmX6, w1_148, rfl, Or.inr (Or.inl ⟨rfl, rfl, rfl⟩)⟩
theorem w1_149 : Cond.fieldLink RX8 148 "SofaRailway$Routes" "byRounds" "[I" ∈ AL := AL_in (T1 (List.mem_of_getElem? (i := 149) rfl)) rfl
theorem fX8_148 : FL RX8 148 6 1 (.array .int) 2 := ⟨RX6, TX6, 3, tyX6, rfl, by decide, uwX6, tyX6_ok, nmX6, w1_149, rfl, Or.inr (Or.inr rfl)⟩
theorem w1_150 : Cond.fieldLink RX6 18 "SofaRailway$Routes" "groups" "[I" ∈ AL := AL_in (T1 (List.mem_of_getElem? (i := 150) rfl)) rfl
theorem fX6_18 : FL RX6 18 6 2 (.array .int) 1 := ⟨RX6, TX6, 3, tyX6, rfl, by decide, uwX6, tyX6_ok, nmX6, w1_150, rfl, Or.inr (Or.inl ⟨rfl, rfl, rfl⟩)⟩
theorem w1_166 : Cond.fieldLink RX7 12 "SofaRailway$Traffic" "routes" "LSofaRailway$Routes;" ∈ AL := AL_in (T1 (List.mem_of_getElem? (i := 166) rfl)) rfl
theorem fX7_12 : FL RX7 12 7 0 (.object "SofaRailway$Routes") 1 := ⟨RX7, TX7, 3, tyX7, rfl, by decide, uwX7, tyX7_ok, nmX7, w1_166, rfl, Or.inr (Or.inl ⟨rfl, rfl, rfl⟩)⟩
theorem w1_167 : Cond.fieldLink RX7 18 "SofaRailway$Traffic" "blockers" "[I" ∈ AL := AL_in (T1 (List.mem_of_getElem? (i := 167) rfl)) rfl
theorem fX7_18 : FL RX7 18 7 1 (.array .int) 1 := ⟨RX7, TX7, 3, tyX7, rfl, by decide, uwX7, tyX7_ok, nmX7, w1_167, rfl, Or.inr (Or.inl ⟨rfl, rfl, rfl⟩)⟩
theorem w1_168 : Cond.fieldLink RX7 22 "SofaRailway$Traffic" "table" "[I" ∈ AL := AL_in (T1 (List.mem_of_getElem? (i := 168) rfl)) rfl
theorem fX7_22 : FL RX7 22 7 2 (.array .int) 1 := ⟨RX7, TX7, 3, tyX7, rfl, by decide, uwX7, tyX7_ok, nmX7, w1_168, rfl, Or.inr (Or.inl ⟨rfl, rfl, rfl⟩)⟩
theorem w1_184 : Cond.fieldLink RX2 9 "SofaRailway$CommandReader" "text" "[C" ∈ AL := AL_in (T1 (List.mem_of_getElem? (i := 184) rfl)) rfl
theorem fX2_9 : FL RX2 9 2 0 (.array .char) 1 := ⟨RX2, TX2, 7, tyX2, rfl, by decide, uwX2, tyX2_ok, nmX2, w1_184, rfl, Or.inr (Or.inl ⟨rfl, rfl, rfl⟩)⟩
theorem w1_185 : Cond.fieldLink RX2 15 "SofaRailway$CommandReader" "size" "I" ∈ AL := AL_in (T1 (List.mem_of_getElem? (i := 185) rfl)) rfl
theorem fX2_15 : FL RX2 15 2 1 .int 0 := ⟨RX2, TX2, 7, tyX2, rfl, by decide, uwX2, tyX2_ok, nmX2, w1_185, rfl, Or.inl ⟨rfl, rfl⟩⟩
theorem w1_186 : Cond.fieldLink RX8 289 "SofaRailway$CommandReader" "size" "I" ∈ AL := AL_in (T1 (List.mem_of_getElem? (i := 186) rfl)) rfl
theorem fX8_289 : FL RX8 289 2 1 .int 0 := ⟨RX2, TX2, 7, tyX2, rfl, by decide, uwX2, tyX2_ok, nmX2, w1_186, rfl, Or.inl ⟨rfl, rfl⟩⟩
theorem w1_187 : Cond.fieldLink RX2 19 "SofaRailway$CommandReader" "position" "I" ∈ AL := AL_in (T1 (List.mem_of_getElem? (i := 187) rfl)) rfl
theorem fX2_19 : FL RX2 19 2 2 .int 0 := ⟨RX2, TX2, 7, tyX2, rfl, by decide, uwX2, tyX2_ok, nmX2, w1_187, rfl, Or.inl ⟨rfl, rfl⟩⟩
theorem w1_188 : Cond.fieldLink RX2 22 "SofaRailway$CommandReader" "ended" "Z" ∈ AL := AL_in (T1 (List.mem_of_getElem? (i := 188) rfl)) rfl
theorem fX2_22 : FL RX2 22 2 3 .boolean 0 := ⟨RX2, TX2, 7, tyX2, rfl, by decide, uwX2, tyX2_ok, nmX2, w1_188, rfl, Or.inl ⟨rfl, rfl⟩⟩
theorem w1_189 : Cond.fieldLink RX2 32 "SofaRailway$CommandReader" "command" "LSofaRailway$Command;" ∈ AL := AL_in (T1 (List.mem_of_getElem? (i := 189) rfl)) rfl
theorem fX2_32 : FL RX2 32 2 4 (.object "SofaRailway$Command") 0 := ⟨RX2, TX2, 7, tyX2, rfl, by decide, uwX2, tyX2_ok, nmX2, w1_189, rfl, Or.inl ⟨rfl, rfl⟩⟩
theorem w1_190 : Cond.fieldLink RX8 306 "SofaRailway$CommandReader" "command" "LSofaRailway$Command;" ∈ AL := AL_in (T1 (List.mem_of_getElem? (i := 190) rfl)) rfl
theorem fX8_306 : FL RX8 306 2 4 (.object "SofaRailway$Command") 0 := ⟨RX2, TX2, 7, tyX2, rfl, by decide, uwX2, tyX2_ok, nmX2, w1_190, rfl, Or.inl ⟨rfl, rfl⟩⟩
theorem w1_191 : Cond.fieldLink RX2 35 "SofaRailway$CommandReader" "first" "I" ∈ AL := AL_in (T1 (List.mem_of_getElem? (i := 191) rfl)) rfl
theorem fX2_35 : FL RX2 35 2 5 .int 0 := ⟨RX2, TX2, 7, tyX2, rfl, by decide, uwX2, tyX2_ok, nmX2, w1_191, rfl, Or.inl ⟨rfl, rfl⟩⟩
theorem w1_192 : Cond.fieldLink RX8 310 "SofaRailway$CommandReader" "first" "I" ∈ AL := AL_in (T1 (List.mem_of_getElem? (i := 192) rfl)) rfl
theorem fX8_310 : FL RX8 310 2 5 .int 0 := ⟨RX2, TX2, 7, tyX2, rfl, by decide, uwX2, tyX2_ok, nmX2, w1_192, rfl, Or.inl ⟨rfl, rfl⟩⟩
theorem w1_193 : Cond.fieldLink RX2 38 "SofaRailway$CommandReader" "second" "I" ∈ AL := AL_in (T1 (List.mem_of_getElem? (i := 193) rfl)) rfl
theorem fX2_38 : FL RX2 38 2 6 .int 0 := ⟨RX2, TX2, 7, tyX2, rfl, by decide, uwX2, tyX2_ok, nmX2, w1_193, rfl, Or.inl ⟨rfl, rfl⟩⟩
theorem w1_194 : Cond.fieldLink RX8 313 "SofaRailway$CommandReader" "second" "I" ∈ AL := AL_in (T1 (List.mem_of_getElem? (i := 194) rfl)) rfl
theorem fX8_313 : FL RX8 313 2 6 .int 0 := ⟨RX2, TX2, 7, tyX2, rfl, by decide, uwX2, tyX2_ok, nmX2, w1_194, rfl, Or.inl ⟨rfl, rfl⟩⟩
theorem w1_217 : Cond.fieldLink RX5 9 "SofaRailway$Output" "signs" "[C" ∈ AL := AL_in (T1 (List.mem_of_getElem? (i := 217) rfl)) rfl
theorem fX5_9 : FL RX5 9 5 0 (.array .char) 1 := ⟨RX5, TX5, 2, tyX5, rfl, by decide, uwX5, tyX5_ok, nmX5, w1_217, rfl, Or.inr (Or.inl ⟨rfl, rfl, rfl⟩)⟩
theorem w1_218 : Cond.fieldLink RX8 272 "SofaRailway$Output" "signs" "[C" ∈ AL := AL_in (T1 (List.mem_of_getElem? (i := 218) rfl)) rfl
theorem fX8_272 : FL RX8 272 5 0 (.array .char) 2 := ⟨RX5, TX5, 2, tyX5, rfl, by decide, uwX5, tyX5_ok, nmX5, w1_218, rfl, Or.inr (Or.inr rfl)⟩
theorem w1_219 : Cond.fieldLink RX5 15 "SofaRailway$Output" "size" "I" ∈ AL := AL_in (T1 (List.mem_of_getElem? (i := 219) rfl)) rfl
theorem fX5_15 : FL RX5 15 5 1 .int 0 := ⟨RX5, TX5, 2, tyX5, rfl, by decide, uwX5, tyX5_ok, nmX5, w1_219, rfl, Or.inl ⟨rfl, rfl⟩⟩
theorem w1_220 : Cond.fieldLink RX8 264 "SofaRailway$Output" "size" "I" ∈ AL := AL_in (T1 (List.mem_of_getElem? (i := 220) rfl)) rfl
theorem fX8_264 : FL RX8 264 5 1 .int 0 := ⟨RX5, TX5, 2, tyX5, rfl, by decide, uwX5, tyX5_ok, nmX5, w1_220, rfl, Or.inl ⟨rfl, rfl⟩⟩
theorem w1_226 : Cond.fieldLink RX8 12 "SofaRailway" "now" "LSofaRailway$Layout;" ∈ AL := AL_in (T1 (List.mem_of_getElem? (i := 226) rfl)) rfl
theorem fX8_12 : FL RX8 12 8 0 (.object "SofaRailway$Layout") 1 := ⟨RX8, TX8, 11, tyX8, rfl, by decide, uwX8, tyX8_ok, nmX8, w1_226, rfl, Or.inr (Or.inl ⟨rfl, rfl, rfl⟩)⟩
theorem w1_227 : Cond.fieldLink RX8 16 "SofaRailway" "saved" "LSofaRailway$Layout;" ∈ AL := AL_in (T1 (List.mem_of_getElem? (i := 227) rfl)) rfl
theorem fX8_16 : FL RX8 16 8 1 (.object "SofaRailway$Layout") 1 := ⟨RX8, TX8, 11, tyX8, rfl, by decide, uwX8, tyX8_ok, nmX8, w1_227, rfl, Or.inr (Or.inl ⟨rfl, rfl, rfl⟩)⟩
theorem w1_228 : Cond.fieldLink RX8 19 "SofaRailway" "forecast" "LSofaRailway$Layout;" ∈ AL := AL_in (T1 (List.mem_of_getElem? (i := 228) rfl)) rfl
theorem fX8_19 : FL RX8 19 8 2 (.object "SofaRailway$Layout") 1 := ⟨RX8, TX8, 11, tyX8, rfl, by decide, uwX8, tyX8_ok, nmX8, w1_228, rfl, Or.inr (Or.inl ⟨rfl, rfl, rfl⟩)⟩
theorem w1_229 : Cond.fieldLink RX8 25 "SofaRailway" "history" "LSofaRailway$History;" ∈ AL := AL_in (T1 (List.mem_of_getElem? (i := 229) rfl)) rfl
theorem fX8_25 : FL RX8 25 8 3 (.object "SofaRailway$History") 1 := ⟨RX8, TX8, 11, tyX8, rfl, by decide, uwX8, tyX8_ok, nmX8, w1_229, rfl, Or.inr (Or.inl ⟨rfl, rfl, rfl⟩)⟩
theorem w1_230 : Cond.fieldLink RX8 32 "SofaRailway" "routes" "LSofaRailway$Routes;" ∈ AL := AL_in (T1 (List.mem_of_getElem? (i := 230) rfl)) rfl
theorem fX8_32 : FL RX8 32 8 4 (.object "SofaRailway$Routes") 1 := ⟨RX8, TX8, 11, tyX8, rfl, by decide, uwX8, tyX8_ok, nmX8, w1_230, rfl, Or.inr (Or.inl ⟨rfl, rfl, rfl⟩)⟩
theorem w1_231 : Cond.fieldLink RX8 39 "SofaRailway" "traffic" "LSofaRailway$Traffic;" ∈ AL := AL_in (T1 (List.mem_of_getElem? (i := 231) rfl)) rfl
theorem fX8_39 : FL RX8 39 8 5 (.object "SofaRailway$Traffic") 1 := ⟨RX8, TX8, 11, tyX8, rfl, by decide, uwX8, tyX8_ok, nmX8, w1_231, rfl, Or.inr (Or.inl ⟨rfl, rfl, rfl⟩)⟩
theorem w1_232 : Cond.fieldLink RX8 46 "SofaRailway" "reader" "LSofaRailway$CommandReader;" ∈ AL := AL_in (T1 (List.mem_of_getElem? (i := 232) rfl)) rfl
theorem fX8_46 : FL RX8 46 8 6 (.object "SofaRailway$CommandReader") 1 := ⟨RX8, TX8, 11, tyX8, rfl, by decide, uwX8, tyX8_ok, nmX8, w1_232, rfl, Or.inr (Or.inl ⟨rfl, rfl, rfl⟩)⟩
theorem w1_233 : Cond.fieldLink RX8 53 "SofaRailway" "output" "LSofaRailway$Output;" ∈ AL := AL_in (T1 (List.mem_of_getElem? (i := 233) rfl)) rfl
theorem fX8_53 : FL RX8 53 8 7 (.object "SofaRailway$Output") 1 := ⟨RX8, TX8, 11, tyX8, rfl, by decide, uwX8, tyX8_ok, nmX8, w1_233, rfl, Or.inr (Or.inl ⟨rfl, rfl, rfl⟩)⟩
theorem w1_234 : Cond.fieldLink RX8 57 "SofaRailway" "hasSaved" "Z" ∈ AL := AL_in (T1 (List.mem_of_getElem? (i := 234) rfl)) rfl
theorem fX8_57 : FL RX8 57 8 8 .boolean 0 := ⟨RX8, TX8, 11, tyX8, rfl, by decide, uwX8, tyX8_ok, nmX8, w1_234, rfl, Or.inl ⟨rfl, rfl⟩⟩
theorem w1_235 : Cond.fieldLink RX8 61 "SofaRailway" "keptErrorPosition" "I" ∈ AL := AL_in (T1 (List.mem_of_getElem? (i := 235) rfl)) rfl
theorem fX8_61 : FL RX8 61 8 9 .int 0 := ⟨RX8, TX8, 11, tyX8, rfl, by decide, uwX8, tyX8_ok, nmX8, w1_235, rfl, Or.inl ⟨rfl, rfl⟩⟩
theorem w1_236 : Cond.fieldLink RX8 65 "SofaRailway" "keptFailedCommand" "I" ∈ AL := AL_in (T1 (List.mem_of_getElem? (i := 236) rfl)) rfl
theorem fX8_65 : FL RX8 65 8 10 .int 0 := ⟨RX8, TX8, 11, tyX8, rfl, by decide, uwX8, tyX8_ok, nmX8, w1_236, rfl, Or.inl ⟨rfl, rfl⟩⟩
theorem w5_204 : Cond.fieldLink RX9 47 "SofaRailwayModel" "thrown" "I" ∈ AL := AL_in (T5 (List.mem_of_getElem? (i := 204) rfl)) rfl
theorem fX9_47 : FL RX9 47 9 0 .int 0 := ⟨RX9, TX9, 22, tyX9, rfl, by decide, uwX9, tyX9_ok, nmX9, w5_204, rfl, Or.inl ⟨rfl, rfl⟩⟩
theorem w5_205 : Cond.fieldLink RX9 7 "SofaRailwayModel" "s" "[I" ∈ AL := AL_in (T5 (List.mem_of_getElem? (i := 205) rfl)) rfl
theorem fX9_7 : FL RX9 7 9 1 (.array .int) 1 := ⟨RX9, TX9, 22, tyX9, rfl, by decide, uwX9, tyX9_ok, nmX9, w5_205, rfl, Or.inr (Or.inl ⟨rfl, rfl, rfl⟩)⟩
theorem w5_206 : Cond.fieldLink RX9 13 "SofaRailwayModel" "frame" "[I" ∈ AL := AL_in (T5 (List.mem_of_getElem? (i := 206) rfl)) rfl
theorem fX9_13 : FL RX9 13 9 2 (.array .int) 1 := ⟨RX9, TX9, 22, tyX9, rfl, by decide, uwX9, tyX9_ok, nmX9, w5_206, rfl, Or.inr (Or.inl ⟨rfl, rfl, rfl⟩)⟩
theorem w5_207 : Cond.fieldLink RX9 16 "SofaRailwayModel" "saved" "[I" ∈ AL := AL_in (T5 (List.mem_of_getElem? (i := 207) rfl)) rfl
theorem fX9_16 : FL RX9 16 9 3 (.array .int) 1 := ⟨RX9, TX9, 22, tyX9, rfl, by decide, uwX9, tyX9_ok, nmX9, w5_207, rfl, Or.inr (Or.inl ⟨rfl, rfl, rfl⟩)⟩
theorem w5_208 : Cond.fieldLink RX9 19 "SofaRailwayModel" "history" "[I" ∈ AL := AL_in (T5 (List.mem_of_getElem? (i := 208) rfl)) rfl
theorem fX9_19 : FL RX9 19 9 4 (.array .int) 1 := ⟨RX9, TX9, 22, tyX9, rfl, by decide, uwX9, tyX9_ok, nmX9, w5_208, rfl, Or.inr (Or.inl ⟨rfl, rfl, rfl⟩)⟩
theorem w5_209 : Cond.fieldLink RX9 22 "SofaRailwayModel" "thought" "[I" ∈ AL := AL_in (T5 (List.mem_of_getElem? (i := 209) rfl)) rfl
theorem fX9_22 : FL RX9 22 9 5 (.array .int) 1 := ⟨RX9, TX9, 22, tyX9, rfl, by decide, uwX9, tyX9_ok, nmX9, w5_209, rfl, Or.inr (Or.inl ⟨rfl, rfl, rfl⟩)⟩
theorem w5_210 : Cond.fieldLink RX9 50 "SofaRailwayModel" "kept" "I" ∈ AL := AL_in (T5 (List.mem_of_getElem? (i := 210) rfl)) rfl
theorem fX9_50 : FL RX9 50 9 6 .int 0 := ⟨RX9, TX9, 22, tyX9, rfl, by decide, uwX9, tyX9_ok, nmX9, w5_210, rfl, Or.inl ⟨rfl, rfl⟩⟩
theorem w5_211 : Cond.fieldLink RX9 275 "SofaRailwayModel" "hasSaved" "Z" ∈ AL := AL_in (T5 (List.mem_of_getElem? (i := 211) rfl)) rfl
theorem fX9_275 : FL RX9 275 9 7 .boolean 0 := ⟨RX9, TX9, 22, tyX9, rfl, by decide, uwX9, tyX9_ok, nmX9, w5_211, rfl, Or.inl ⟨rfl, rfl⟩⟩
theorem w5_212 : Cond.fieldLink RX9 25 "SofaRailwayModel" "text" "[I" ∈ AL := AL_in (T5 (List.mem_of_getElem? (i := 212) rfl)) rfl
theorem fX9_25 : FL RX9 25 9 8 (.array .int) 1 := ⟨RX9, TX9, 22, tyX9, rfl, by decide, uwX9, tyX9_ok, nmX9, w5_212, rfl, Or.inr (Or.inl ⟨rfl, rfl, rfl⟩)⟩
theorem w5_213 : Cond.fieldLink RX9 28 "SofaRailwayModel" "told" "[I" ∈ AL := AL_in (T5 (List.mem_of_getElem? (i := 213) rfl)) rfl
theorem fX9_28 : FL RX9 28 9 9 (.array .int) 1 := ⟨RX9, TX9, 22, tyX9, rfl, by decide, uwX9, tyX9_ok, nmX9, w5_213, rfl, Or.inr (Or.inl ⟨rfl, rfl, rfl⟩)⟩
theorem w5_214 : Cond.fieldLink RX9 31 "SofaRailwayModel" "out" "[I" ∈ AL := AL_in (T5 (List.mem_of_getElem? (i := 214) rfl)) rfl
theorem fX9_31 : FL RX9 31 9 10 (.array .int) 1 := ⟨RX9, TX9, 22, tyX9, rfl, by decide, uwX9, tyX9_ok, nmX9, w5_214, rfl, Or.inr (Or.inl ⟨rfl, rfl, rfl⟩)⟩
theorem w5_215 : Cond.fieldLink RX9 34 "SofaRailwayModel" "far" "[I" ∈ AL := AL_in (T5 (List.mem_of_getElem? (i := 215) rfl)) rfl
theorem fX9_34 : FL RX9 34 9 11 (.array .int) 1 := ⟨RX9, TX9, 22, tyX9, rfl, by decide, uwX9, tyX9_ok, nmX9, w5_215, rfl, Or.inr (Or.inl ⟨rfl, rfl, rfl⟩)⟩
theorem w5_216 : Cond.fieldLink RX9 37 "SofaRailwayModel" "mark" "[I" ∈ AL := AL_in (T5 (List.mem_of_getElem? (i := 216) rfl)) rfl
theorem fX9_37 : FL RX9 37 9 12 (.array .int) 1 := ⟨RX9, TX9, 22, tyX9, rfl, by decide, uwX9, tyX9_ok, nmX9, w5_216, rfl, Or.inr (Or.inl ⟨rfl, rfl, rfl⟩)⟩
theorem w5_217 : Cond.fieldLink RX9 199 "SofaRailwayModel" "fed" "I" ∈ AL := AL_in (T5 (List.mem_of_getElem? (i := 217) rfl)) rfl
theorem fX9_199 : FL RX9 199 9 13 .int 0 := ⟨RX9, TX9, 22, tyX9, rfl, by decide, uwX9, tyX9_ok, nmX9, w5_217, rfl, Or.inl ⟨rfl, rfl⟩⟩
theorem w5_218 : Cond.fieldLink RX9 190 "SofaRailwayModel" "outLength" "I" ∈ AL := AL_in (T5 (List.mem_of_getElem? (i := 218) rfl)) rfl
theorem fX9_190 : FL RX9 190 9 14 .int 0 := ⟨RX9, TX9, 22, tyX9, rfl, by decide, uwX9, tyX9_ok, nmX9, w5_218, rfl, Or.inl ⟨rfl, rfl⟩⟩
theorem w5_219 : Cond.fieldLink RX9 40 "SofaRailwayModel" "faultAt" "I" ∈ AL := AL_in (T5 (List.mem_of_getElem? (i := 219) rfl)) rfl
theorem fX9_40 : FL RX9 40 9 15 .int 0 := ⟨RX9, TX9, 22, tyX9, rfl, by decide, uwX9, tyX9_ok, nmX9, w5_219, rfl, Or.inl ⟨rfl, rfl⟩⟩
theorem w5_220 : Cond.fieldLink RX9 44 "SofaRailwayModel" "failedAt" "I" ∈ AL := AL_in (T5 (List.mem_of_getElem? (i := 220) rfl)) rfl
theorem fX9_44 : FL RX9 44 9 16 .int 0 := ⟨RX9, TX9, 22, tyX9, rfl, by decide, uwX9, tyX9_ok, nmX9, w5_220, rfl, Or.inl ⟨rfl, rfl⟩⟩
theorem w5_221 : Cond.fieldLink RX9 53 "SofaRailwayModel" "answer" "I" ∈ AL := AL_in (T5 (List.mem_of_getElem? (i := 221) rfl)) rfl
theorem fX9_53 : FL RX9 53 9 17 .int 0 := ⟨RX9, TX9, 22, tyX9, rfl, by decide, uwX9, tyX9_ok, nmX9, w5_221, rfl, Or.inl ⟨rfl, rfl⟩⟩
theorem w5_222 : Cond.fieldLink RX9 202 "SofaRailwayModel" "spot" "I" ∈ AL := AL_in (T5 (List.mem_of_getElem? (i := 222) rfl)) rfl
theorem fX9_202 : FL RX9 202 9 18 .int 0 := ⟨RX9, TX9, 22, tyX9, rfl, by decide, uwX9, tyX9_ok, nmX9, w5_222, rfl, Or.inl ⟨rfl, rfl⟩⟩
theorem w5_223 : Cond.fieldLink RX9 205 "SofaRailwayModel" "end" "I" ∈ AL := AL_in (T5 (List.mem_of_getElem? (i := 223) rfl)) rfl
theorem fX9_205 : FL RX9 205 9 19 .int 0 := ⟨RX9, TX9, 22, tyX9, rfl, by decide, uwX9, tyX9_ok, nmX9, w5_223, rfl, Or.inl ⟨rfl, rfl⟩⟩
theorem w5_224 : Cond.fieldLink RX9 224 "SofaRailwayModel" "commands" "I" ∈ AL := AL_in (T5 (List.mem_of_getElem? (i := 224) rfl)) rfl
theorem fX9_224 : FL RX9 224 9 20 .int 0 := ⟨RX9, TX9, 22, tyX9, rfl, by decide, uwX9, tyX9_ok, nmX9, w5_224, rfl, Or.inl ⟨rfl, rfl⟩⟩
theorem w5_225 : Cond.fieldLink RX9 213 "SofaRailwayModel" "isWrong" "Z" ∈ AL := AL_in (T5 (List.mem_of_getElem? (i := 225) rfl)) rfl
theorem fX9_213 : FL RX9 213 9 21 .boolean 0 := ⟨RX9, TX9, 22, tyX9, rfl, by decide, uwX9, tyX9_ok, nmX9, w5_225, rfl, Or.inl ⟨rfl, rfl⟩⟩
theorem w1_29 : Cond.classLink RL 8 RX8 ∈ AL := AL_in (T1 (List.mem_of_getElem? (i := 29) rfl)) rfl
theorem w1_30 : Cond.instantiable RX8 11 ∈ AL := AL_in (T1 (List.mem_of_getElem? (i := 30) rfl)) rfl
theorem nL_8 : NL RL 8 8 11 [.null, .null, .null, .null, .null, .null, .null, .null, .int 0, .int 0, .int 0] := ⟨RX8, TX8, tyX8, rfl, uwX8, tyX8_ok, w1_29, w1_30, w1_1, rfl⟩
theorem w1_37 : Cond.classLink RX8 9 RX4 ∈ AL := AL_in (T1 (List.mem_of_getElem? (i := 37) rfl)) rfl
theorem w1_38 : Cond.instantiable RX4 15 ∈ AL := AL_in (T1 (List.mem_of_getElem? (i := 38) rfl)) rfl
theorem nX8_9 : NL RX8 9 4 15 [.int 0, .int 0, .int 0, .int 0, .int 0, .int 0, .int 0, .null, .null, .null, .null, .null, .null, .null, .null] := ⟨RX4, TX4, tyX4, rfl, uwX4, tyX4_ok, w1_37, w1_38, w1_2, rfl⟩
theorem w1_119 : Cond.classLink RX8 22 RX3 ∈ AL := AL_in (T1 (List.mem_of_getElem? (i := 119) rfl)) rfl
theorem w1_120 : Cond.instantiable RX3 3 ∈ AL := AL_in (T1 (List.mem_of_getElem? (i := 120) rfl)) rfl
theorem nX8_22 : NL RX8 22 3 3 [.null, .int 0, .int 0] := ⟨RX3, TX3, tyX3, rfl, uwX3, tyX3_ok, w1_119, w1_120, w1_3, rfl⟩
theorem w1_125 : Cond.classLink RX3 9 RX4 ∈ AL := AL_in (T1 (List.mem_of_getElem? (i := 125) rfl)) rfl
theorem nX3_9 : NL RX3 9 4 15 [.int 0, .int 0, .int 0, .int 0, .int 0, .int 0, .int 0, .null, .null, .null, .null, .null, .null, .null, .null] := ⟨RX4, TX4, tyX4, rfl, uwX4, tyX4_ok, w1_125, w1_38, w1_2, rfl⟩
theorem w1_139 : Cond.classLink RX8 29 RX6 ∈ AL := AL_in (T1 (List.mem_of_getElem? (i := 139) rfl)) rfl
theorem w1_140 : Cond.instantiable RX6 3 ∈ AL := AL_in (T1 (List.mem_of_getElem? (i := 140) rfl)) rfl
theorem nX8_29 : NL RX8 29 6 3 [.null, .null, .null] := ⟨RX6, TX6, tyX6, rfl, uwX6, tyX6_ok, w1_139, w1_140, w1_4, rfl⟩
theorem w1_158 : Cond.classLink RX8 36 RX7 ∈ AL := AL_in (T1 (List.mem_of_getElem? (i := 158) rfl)) rfl
theorem w1_159 : Cond.instantiable RX7 3 ∈ AL := AL_in (T1 (List.mem_of_getElem? (i := 159) rfl)) rfl
theorem nX8_36 : NL RX8 36 7 3 [.null, .null, .null] := ⟨RX7, TX7, tyX7, rfl, uwX7, tyX7_ok, w1_158, w1_159, w1_5, rfl⟩
theorem w1_164 : Cond.classLink RX7 9 RX6 ∈ AL := AL_in (T1 (List.mem_of_getElem? (i := 164) rfl)) rfl
theorem nX7_9 : NL RX7 9 6 3 [.null, .null, .null] := ⟨RX6, TX6, tyX6, rfl, uwX6, tyX6_ok, w1_164, w1_140, w1_4, rfl⟩
theorem w1_176 : Cond.classLink RX8 43 RX2 ∈ AL := AL_in (T1 (List.mem_of_getElem? (i := 176) rfl)) rfl
theorem w1_177 : Cond.instantiable RX2 7 ∈ AL := AL_in (T1 (List.mem_of_getElem? (i := 177) rfl)) rfl
theorem nX8_43 : NL RX8 43 2 7 [.null, .int 0, .int 0, .int 0, .null, .int 0, .int 0] := ⟨RX2, TX2, tyX2, rfl, uwX2, tyX2_ok, w1_176, w1_177, w1_6, rfl⟩
theorem w1_211 : Cond.classLink RX8 50 RX5 ∈ AL := AL_in (T1 (List.mem_of_getElem? (i := 211) rfl)) rfl
theorem w1_212 : Cond.instantiable RX5 2 ∈ AL := AL_in (T1 (List.mem_of_getElem? (i := 212) rfl)) rfl
theorem nX8_50 : NL RX8 50 5 2 [.null, .int 0] := ⟨RX5, TX5, tyX5, rfl, uwX5, tyX5_ok, w1_211, w1_212, w1_9, rfl⟩
theorem w5_198 : Cond.classLink RL 163 RX9 ∈ AL := AL_in (T5 (List.mem_of_getElem? (i := 198) rfl)) rfl
theorem w5_199 : Cond.instantiable RX9 22 ∈ AL := AL_in (T5 (List.mem_of_getElem? (i := 199) rfl)) rfl
theorem nL_163 : NL RL 163 9 22 [.int 0, .null, .null, .null, .null, .null, .int 0, .int 0, .null, .null, .null, .null, .null, .int 0, .int 0, .int 0, .int 0, .int 0, .int 0, .int 0, .int 0, .int 0] := ⟨RX9, TX9, tyX9, rfl, uwX9, tyX9_ok, w5_198, w5_199, w1_10, rfl⟩
theorem w1_118 : Cond.arrayClass .int ∈ AL := AL_in (T1 (List.mem_of_getElem? (i := 118) rfl)) rfl
theorem ac_int : Cond.arrayClass .int ∈ AL := w1_118
theorem w1_182 : Cond.fieldLink RX2 26 "SofaRailway$Command" "BLOCK" "LSofaRailway$Command;" ∈ AL := AL_in (T1 (List.mem_of_getElem? (i := 182) rfl)) rfl
theorem gX2_26 : Cond.fieldLink RX2 26 "SofaRailway$Command" "BLOCK" "LSofaRailway$Command;" ∈ AL := w1_182
theorem w1_210 : Cond.arrayClass .char ∈ AL := AL_in (T1 (List.mem_of_getElem? (i := 210) rfl)) rfl
theorem ac_char : Cond.arrayClass .char ∈ AL := w1_210
theorem w3_13 : Cond.arrayClass .byte ∈ AL := AL_in (T3 (List.mem_of_getElem? (i := 13) rfl)) rfl
theorem ac_byte : Cond.arrayClass .byte ∈ AL := w3_13
theorem w3_136 : Cond.constant RJ6 265 (1431655765) ∈ AL := AL_in (T3 (List.mem_of_getElem? (i := 136) rfl)) rfl
theorem kcJ6_265 : Cond.constant RJ6 265 (1431655765) ∈ AL := w3_136
theorem w3_137 : Cond.constant RJ6 266 (858993459) ∈ AL := AL_in (T3 (List.mem_of_getElem? (i := 137) rfl)) rfl
theorem kcJ6_266 : Cond.constant RJ6 266 (858993459) ∈ AL := w3_137
theorem w3_138 : Cond.constant RJ6 267 (252645135) ∈ AL := AL_in (T3 (List.mem_of_getElem? (i := 138) rfl)) rfl
theorem kcJ6_267 : Cond.constant RJ6 267 (252645135) ∈ AL := w3_138
theorem w5_81 : Cond.fieldLink RJ0 38 "java/lang/String" "COMPACT_STRINGS" "Z" ∈ AL := AL_in (T5 (List.mem_of_getElem? (i := 81) rfl)) rfl
theorem gJ0_38 : Cond.fieldLink RJ0 38 "java/lang/String" "COMPACT_STRINGS" "Z" ∈ AL := w5_81
theorem w5_97 : Cond.fieldLink RJ0 1053 "jdk/internal/util/Preconditions" "SIOOBE_FORMATTER" "Ljava/util/function/BiFunction;" ∈ AL := AL_in (T5 (List.mem_of_getElem? (i := 97) rfl)) rfl
theorem gJ0_1053 : Cond.fieldLink RJ0 1053 "jdk/internal/util/Preconditions" "SIOOBE_FORMATTER" "Ljava/util/function/BiFunction;" ∈ AL := w5_97
theorem w5_115 : Cond.fieldLink RJ2 44 "java/lang/StringUTF16" "$assertionsDisabled" "Z" ∈ AL := AL_in (T5 (List.mem_of_getElem? (i := 115) rfl)) rfl
theorem gJ2_44 : Cond.fieldLink RJ2 44 "java/lang/StringUTF16" "$assertionsDisabled" "Z" ∈ AL := w5_115
theorem w5_117 : Cond.fieldLink RJ2 59 "java/lang/StringUTF16" "HI_BYTE_SHIFT" "I" ∈ AL := AL_in (T5 (List.mem_of_getElem? (i := 117) rfl)) rfl
theorem gJ2_59 : Cond.fieldLink RJ2 59 "java/lang/StringUTF16" "HI_BYTE_SHIFT" "I" ∈ AL := w5_117
theorem w5_119 : Cond.fieldLink RJ2 63 "java/lang/StringUTF16" "LO_BYTE_SHIFT" "I" ∈ AL := AL_in (T5 (List.mem_of_getElem? (i := 119) rfl)) rfl
theorem gJ2_63 : Cond.fieldLink RJ2 63 "java/lang/StringUTF16" "LO_BYTE_SHIFT" "I" ∈ AL := w5_119
theorem w5_147 : Cond.fieldLink RX8 365 "SofaRailway$1" "$SwitchMap$SofaRailway$Command" "[I" ∈ AL := AL_in (T5 (List.mem_of_getElem? (i := 147) rfl)) rfl
theorem gX8_365 : Cond.fieldLink RX8 365 "SofaRailway$1" "$SwitchMap$SofaRailway$Command" "[I" ∈ AL := w5_147
theorem w7_228 : Cond.arrayClass .long ∈ AL := AL_in (T7 (List.mem_of_getElem? (i := 228) rfl)) rfl
theorem ac_long : Cond.arrayClass .long ∈ AL := w7_228
theorem w7_229 : Cond.arrayClass .double ∈ AL := AL_in (T7 (List.mem_of_getElem? (i := 229) rfl)) rfl
theorem ac_double : Cond.arrayClass .double ∈ AL := w7_229
theorem w8_10 : Cond.fieldLink RX2 52 "SofaRailway$Command" "form" "Ljava/lang/String;" ∈ AL := AL_in (T8 (List.mem_of_getElem? (i := 10) rfl)) rfl
theorem gX2_52 : Cond.fieldLink RX2 52 "SofaRailway$Command" "form" "Ljava/lang/String;" ∈ AL := w8_10
theorem w8_11 : Cond.fieldLink RJ0 9 "java/lang/String" "value" "[B" ∈ AL := AL_in (T8 (List.mem_of_getElem? (i := 11) rfl)) rfl
theorem gJ0_9 : Cond.fieldLink RJ0 9 "java/lang/String" "value" "[B" ∈ AL := w8_11
theorem w8_12 : Cond.fieldLink RJ0 15 "java/lang/String" "coder" "B" ∈ AL := AL_in (T8 (List.mem_of_getElem? (i := 12) rfl)) rfl
theorem gJ0_15 : Cond.fieldLink RJ0 15 "java/lang/String" "coder" "B" ∈ AL := w8_12
theorem w8_13 : Cond.fieldLink RJx29ce0 7 "java/lang/Enum" "ordinal" "I" ∈ AL := AL_in (T8 (List.mem_of_getElem? (i := 13) rfl)) rfl
theorem gJx29ce0_7 : Cond.fieldLink RJx29ce0 7 "java/lang/Enum" "ordinal" "I" ∈ AL := w8_13
theorem clL_8 : Cond.classLink RL 8 "SofaRailway" ∈ AL := w1_29
theorem clX8_9 : Cond.classLink RX8 9 "SofaRailway$Layout" ∈ AL := w1_37
theorem clX8_22 : Cond.classLink RX8 22 "SofaRailway$History" ∈ AL := w1_119
theorem clX3_9 : Cond.classLink RX3 9 "SofaRailway$Layout" ∈ AL := w1_125
theorem clX8_29 : Cond.classLink RX8 29 "SofaRailway$Routes" ∈ AL := w1_139
theorem clX8_36 : Cond.classLink RX8 36 "SofaRailway$Traffic" ∈ AL := w1_158
theorem clX7_9 : Cond.classLink RX7 9 "SofaRailway$Routes" ∈ AL := w1_164
theorem clX8_43 : Cond.classLink RX8 43 "SofaRailway$CommandReader" ∈ AL := w1_176
theorem clX8_50 : Cond.classLink RX8 50 "SofaRailway$Output" ∈ AL := w1_211
theorem w2_163 : Cond.classLink RL 13 "java/lang/IllegalArgumentException" ∈ AL := AL_in (T2 (List.mem_of_getElem? (i := 163) rfl)) rfl
theorem clL_13 : Cond.classLink RL 13 "java/lang/IllegalArgumentException" ∈ AL := w2_163
theorem w2_164 : Cond.classLink RL 15 "java/lang/IllegalStateException" ∈ AL := AL_in (T2 (List.mem_of_getElem? (i := 164) rfl)) rfl
theorem clL_15 : Cond.classLink RL 15 "java/lang/IllegalStateException" ∈ AL := w2_164
theorem w2_182 : Cond.classLink RX8 267 "java/lang/IndexOutOfBoundsException" ∈ AL := AL_in (T2 (List.mem_of_getElem? (i := 182) rfl)) rfl
theorem clX8_267 : Cond.classLink RX8 267 "java/lang/IndexOutOfBoundsException" ∈ AL := w2_182
theorem w3_14 : Cond.classLink RX8 294 "java/lang/IllegalArgumentException" ∈ AL := AL_in (T3 (List.mem_of_getElem? (i := 14) rfl)) rfl
theorem clX8_294 : Cond.classLink RX8 294 "java/lang/IllegalArgumentException" ∈ AL := w3_14
theorem w3_30 : Cond.classLink RX8 284 "java/lang/IllegalStateException" ∈ AL := AL_in (T3 (List.mem_of_getElem? (i := 30) rfl)) rfl
theorem clX8_284 : Cond.classLink RX8 284 "java/lang/IllegalStateException" ∈ AL := w3_30
theorem w3_46 : Cond.classLink RX8 323 "java/lang/UnsupportedOperationException" ∈ AL := AL_in (T3 (List.mem_of_getElem? (i := 46) rfl)) rfl
theorem clX8_323 : Cond.classLink RX8 323 "java/lang/UnsupportedOperationException" ∈ AL := w3_46
theorem w3_62 : Cond.classLink RX8 229 "java/util/NoSuchElementException" ∈ AL := AL_in (T3 (List.mem_of_getElem? (i := 62) rfl)) rfl
theorem clX8_229 : Cond.classLink RX8 229 "java/util/NoSuchElementException" ∈ AL := w3_62
theorem w3_95 : Cond.classLink RL 24 "java/lang/IndexOutOfBoundsException" ∈ AL := AL_in (T3 (List.mem_of_getElem? (i := 95) rfl)) rfl
theorem clL_24 : Cond.classLink RL 24 "java/lang/IndexOutOfBoundsException" ∈ AL := w3_95
theorem w3_142 : Cond.classLink RL 29 "java/util/NoSuchElementException" ∈ AL := AL_in (T3 (List.mem_of_getElem? (i := 142) rfl)) rfl
theorem clL_29 : Cond.classLink RL 29 "java/util/NoSuchElementException" ∈ AL := w3_142
theorem w3_154 : Cond.classLink RL 34 "java/lang/UnsupportedOperationException" ∈ AL := AL_in (T3 (List.mem_of_getElem? (i := 154) rfl)) rfl
theorem clL_34 : Cond.classLink RL 34 "java/lang/UnsupportedOperationException" ∈ AL := w3_154
theorem w4_223 : Cond.classLink RL 130 "java/lang/ArithmeticException" ∈ AL := AL_in (T4 (List.mem_of_getElem? (i := 223) rfl)) rfl
theorem clL_130 : Cond.classLink RL 130 "java/lang/ArithmeticException" ∈ AL := w4_223
theorem w5_1 : Cond.classLink RX8 242 "java/lang/ArithmeticException" ∈ AL := AL_in (T5 (List.mem_of_getElem? (i := 1) rfl)) rfl
theorem clX8_242 : Cond.classLink RX8 242 "java/lang/ArithmeticException" ∈ AL := w5_1
theorem clL_163 : Cond.classLink RL 163 "SofaRailwayModel" ∈ AL := w5_198
end JLINKS

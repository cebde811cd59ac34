theorem dL_addTrain_19 : decode cL_addTrain 19 = .ok (.astore_n 3, 1) := by decide +kernel
theorem dL_addTrain_20 : decode cL_addTrain 20 = .ok (.bipush (-76), 2) := by decide +kernel
theorem dL_addTrain_22 : decode cL_addTrain 22 = .ok (.ireturn, 1) := by decide +kernel
theorem dL_setGoal_0 : decode cL_setGoal 0 = .ok (.aload_n 0, 1) := by decide +kernel
theorem dL_setGoal_1 : decode cL_setGoal 1 = .ok (.iload_n 1, 1) := by decide +kernel
theorem dL_setGoal_2 : decode cL_setGoal 2 = .ok (.iload_n 2, 1) := by decide +kernel
theorem dL_setGoal_3 : decode cL_setGoal 3 = .ok (.invokevirtual 88, 3) := by decide +kernel
theorem dL_setGoal_6 : decode cL_setGoal 6 = .ok (.ireturn, 1) := by decide +kernel
theorem dL_setGoal_7 : decode cL_setGoal 7 = .ok (.astore_n 3, 1) := by decide +kernel
theorem dL_setGoal_8 : decode cL_setGoal 8 = .ok (.bipush (-77), 2) := by decide +kernel
theorem dL_setGoal_10 : decode cL_setGoal 10 = .ok (.ireturn, 1) := by decide +kernel
theorem dL_setGoal_11 : decode cL_setGoal 11 = .ok (.astore_n 3, 1) := by decide +kernel
theorem dL_setGoal_12 : decode cL_setGoal 12 = .ok (.bipush (-78), 2) := by decide +kernel
theorem dL_setGoal_14 : decode cL_setGoal 14 = .ok (.ireturn, 1) := by decide +kernel
theorem dL_setGoal_15 : decode cL_setGoal 15 = .ok (.astore_n 3, 1) := by decide +kernel
theorem dL_setGoal_16 : decode cL_setGoal 16 = .ok (.bipush (-76), 2) := by decide +kernel
theorem dL_setGoal_18 : decode cL_setGoal 18 = .ok (.ireturn, 1) := by decide +kernel
theorem dL_setGoal_19 : decode cL_setGoal 19 = .ok (.astore_n 3, 1) := by decide +kernel
theorem dL_setGoal_20 : decode cL_setGoal 20 = .ok (.bipush (-75), 2) := by decide +kernel
theorem dL_setGoal_22 : decode cL_setGoal 22 = .ok (.ireturn, 1) := by decide +kernel
theorem dL_clearGoal_0 : decode cL_clearGoal 0 = .ok (.aload_n 0, 1) := by decide +kernel
theorem dL_clearGoal_1 : decode cL_clearGoal 1 = .ok (.iload_n 1, 1) := by decide +kernel
theorem dL_clearGoal_2 : decode cL_clearGoal 2 = .ok (.invokevirtual 91, 3) := by decide +kernel
theorem dL_clearGoal_5 : decode cL_clearGoal 5 = .ok (.ireturn, 1) := by decide +kernel
theorem dL_clearGoal_6 : decode cL_clearGoal 6 = .ok (.astore_n 2, 1) := by decide +kernel
theorem dL_clearGoal_7 : decode cL_clearGoal 7 = .ok (.bipush (-77), 2) := by decide +kernel
theorem dL_clearGoal_9 : decode cL_clearGoal 9 = .ok (.ireturn, 1) := by decide +kernel
theorem dL_clearGoal_10 : decode cL_clearGoal 10 = .ok (.astore_n 2, 1) := by decide +kernel
theorem dL_clearGoal_11 : decode cL_clearGoal 11 = .ok (.bipush (-75), 2) := by decide +kernel
theorem dL_clearGoal_13 : decode cL_clearGoal 13 = .ok (.ireturn, 1) := by decide +kernel
theorem dL_reserve_0 : decode cL_reserve 0 = .ok (.aload_n 0, 1) := by decide +kernel
theorem dL_reserve_1 : decode cL_reserve 1 = .ok (.iload_n 1, 1) := by decide +kernel
theorem dL_reserve_2 : decode cL_reserve 2 = .ok (.iload_n 2, 1) := by decide +kernel
theorem dL_reserve_3 : decode cL_reserve 3 = .ok (.invokevirtual 94, 3) := by decide +kernel
theorem dL_reserve_6 : decode cL_reserve 6 = .ok (.ireturn, 1) := by decide +kernel
theorem dL_reserve_7 : decode cL_reserve 7 = .ok (.astore_n 3, 1) := by decide +kernel
theorem dL_reserve_8 : decode cL_reserve 8 = .ok (.bipush (-77), 2) := by decide +kernel
theorem dL_reserve_10 : decode cL_reserve 10 = .ok (.ireturn, 1) := by decide +kernel
theorem dL_reserve_11 : decode cL_reserve 11 = .ok (.astore_n 3, 1) := by decide +kernel
theorem dL_reserve_12 : decode cL_reserve 12 = .ok (.bipush (-78), 2) := by decide +kernel
theorem dL_reserve_14 : decode cL_reserve 14 = .ok (.ireturn, 1) := by decide +kernel
theorem dL_reserve_15 : decode cL_reserve 15 = .ok (.astore_n 3, 1) := by decide +kernel
theorem dL_reserve_16 : decode cL_reserve 16 = .ok (.bipush (-79), 2) := by decide +kernel
theorem dL_reserve_18 : decode cL_reserve 18 = .ok (.ireturn, 1) := by decide +kernel
theorem dL_reserve_19 : decode cL_reserve 19 = .ok (.astore_n 3, 1) := by decide +kernel
theorem dL_reserve_20 : decode cL_reserve 20 = .ok (.bipush (-76), 2) := by decide +kernel
theorem dL_reserve_22 : decode cL_reserve 22 = .ok (.ireturn, 1) := by decide +kernel
theorem dL_cancelReservation_0 : decode cL_cancelReservation 0 = .ok (.aload_n 0, 1) := by decide +kernel
theorem dL_cancelReservation_1 : decode cL_cancelReservation 1 = .ok (.iload_n 1, 1) := by decide +kernel
theorem dL_cancelReservation_2 : decode cL_cancelReservation 2 = .ok (.invokevirtual 97, 3) := by decide +kernel
theorem dL_cancelReservation_5 : decode cL_cancelReservation 5 = .ok (.ireturn, 1) := by decide +kernel
theorem dL_cancelReservation_6 : decode cL_cancelReservation 6 = .ok (.astore_n 2, 1) := by decide +kernel
theorem dL_cancelReservation_7 : decode cL_cancelReservation 7 = .ok (.bipush (-77), 2) := by decide +kernel
theorem dL_cancelReservation_9 : decode cL_cancelReservation 9 = .ok (.ireturn, 1) := by decide +kernel
theorem dL_cancelReservation_10 : decode cL_cancelReservation 10 = .ok (.astore_n 2, 1) := by decide +kernel
theorem dL_cancelReservation_11 : decode cL_cancelReservation 11 = .ok (.bipush (-75), 2) := by decide +kernel
theorem dL_cancelReservation_13 : decode cL_cancelReservation 13 = .ok (.ireturn, 1) := by decide +kernel
theorem dL_rescue_0 : decode cL_rescue 0 = .ok (.aload_n 0, 1) := by decide +kernel
theorem dL_rescue_1 : decode cL_rescue 1 = .ok (.iload_n 1, 1) := by decide +kernel
theorem dL_rescue_2 : decode cL_rescue 2 = .ok (.invokevirtual 100, 3) := by decide +kernel
theorem dL_rescue_5 : decode cL_rescue 5 = .ok (.ireturn, 1) := by decide +kernel
theorem dL_rescue_6 : decode cL_rescue 6 = .ok (.astore_n 2, 1) := by decide +kernel
theorem dL_rescue_7 : decode cL_rescue 7 = .ok (.bipush (-77), 2) := by decide +kernel
theorem dL_rescue_9 : decode cL_rescue 9 = .ok (.ireturn, 1) := by decide +kernel
theorem dL_rescue_10 : decode cL_rescue 10 = .ok (.astore_n 2, 1) := by decide +kernel
theorem dL_rescue_11 : decode cL_rescue 11 = .ok (.bipush (-79), 2) := by decide +kernel
theorem dL_rescue_13 : decode cL_rescue 13 = .ok (.ireturn, 1) := by decide +kernel
theorem dL_blockOf_0 : decode cL_blockOf 0 = .ok (.aload_n 0, 1) := by decide +kernel
theorem dL_blockOf_1 : decode cL_blockOf 1 = .ok (.iload_n 1, 1) := by decide +kernel
theorem dL_blockOf_2 : decode cL_blockOf 2 = .ok (.invokevirtual 103, 3) := by decide +kernel
theorem dL_blockOf_5 : decode cL_blockOf 5 = .ok (.ireturn, 1) := by decide +kernel
theorem dL_blockOf_6 : decode cL_blockOf 6 = .ok (.astore_n 2, 1) := by decide +kernel
theorem dL_blockOf_7 : decode cL_blockOf 7 = .ok (.bipush (-77), 2) := by decide +kernel
theorem dL_blockOf_9 : decode cL_blockOf 9 = .ok (.ireturn, 1) := by decide +kernel
theorem dL_priority_0 : decode cL_priority 0 = .ok (.aload_n 0, 1) := by decide +kernel
theorem dL_priority_1 : decode cL_priority 1 = .ok (.iload_n 1, 1) := by decide +kernel
theorem dL_priority_2 : decode cL_priority 2 = .ok (.invokevirtual 106, 3) := by decide +kernel
theorem dL_priority_5 : decode cL_priority 5 = .ok (.ireturn, 1) := by decide +kernel
theorem dL_priority_6 : decode cL_priority 6 = .ok (.astore_n 2, 1) := by decide +kernel
theorem dL_priority_7 : decode cL_priority 7 = .ok (.bipush (-77), 2) := by decide +kernel
theorem dL_priority_9 : decode cL_priority 9 = .ok (.ireturn, 1) := by decide +kernel
theorem dL_remainingTicks_0 : decode cL_remainingTicks 0 = .ok (.aload_n 0, 1) := by decide +kernel
theorem dL_remainingTicks_1 : decode cL_remainingTicks 1 = .ok (.iload_n 1, 1) := by decide +kernel
theorem dL_remainingTicks_2 : decode cL_remainingTicks 2 = .ok (.invokevirtual 109, 3) := by decide +kernel
theorem dL_remainingTicks_5 : decode cL_remainingTicks 5 = .ok (.ireturn, 1) := by decide +kernel
theorem dL_remainingTicks_6 : decode cL_remainingTicks 6 = .ok (.astore_n 2, 1) := by decide +kernel
theorem dL_remainingTicks_7 : decode cL_remainingTicks 7 = .ok (.bipush (-77), 2) := by decide +kernel
theorem dL_remainingTicks_9 : decode cL_remainingTicks 9 = .ok (.ireturn, 1) := by decide +kernel
theorem dL_goal_0 : decode cL_goal 0 = .ok (.aload_n 0, 1) := by decide +kernel
theorem dL_goal_1 : decode cL_goal 1 = .ok (.iload_n 1, 1) := by decide +kernel
theorem dL_goal_2 : decode cL_goal 2 = .ok (.invokevirtual 112, 3) := by decide +kernel
theorem dL_goal_5 : decode cL_goal 5 = .ok (.ireturn, 1) := by decide +kernel
theorem dL_goal_6 : decode cL_goal 6 = .ok (.astore_n 2, 1) := by decide +kernel
theorem dL_goal_7 : decode cL_goal 7 = .ok (.bipush (-77), 2) := by decide +kernel
theorem dL_goal_9 : decode cL_goal 9 = .ok (.ireturn, 1) := by decide +kernel
theorem dL_goal_10 : decode cL_goal 10 = .ok (.astore_n 2, 1) := by decide +kernel
theorem dL_goal_11 : decode cL_goal 11 = .ok (.bipush (-75), 2) := by decide +kernel
theorem dL_goal_13 : decode cL_goal 13 = .ok (.ireturn, 1) := by decide +kernel
theorem dL_isDerailed_0 : decode cL_isDerailed 0 = .ok (.aload_n 0, 1) := by decide +kernel
theorem dL_isDerailed_1 : decode cL_isDerailed 1 = .ok (.iload_n 1, 1) := by decide +kernel
theorem dL_isDerailed_2 : decode cL_isDerailed 2 = .ok (.invokevirtual 115, 3) := by decide +kernel
theorem dL_isDerailed_5 : decode cL_isDerailed 5 = .ok (.ifCond .eq 7, 3) := by decide +kernel
theorem dL_isDerailed_8 : decode cL_isDerailed 8 = .ok (.iconst 1, 1) := by decide +kernel
theorem dL_isDerailed_9 : decode cL_isDerailed 9 = .ok (.goto 4, 3) := by decide +kernel
theorem dL_isDerailed_12 : decode cL_isDerailed 12 = .ok (.iconst 0, 1) := by decide +kernel
theorem dL_isDerailed_13 : decode cL_isDerailed 13 = .ok (.ireturn, 1) := by decide +kernel
theorem dL_isDerailed_14 : decode cL_isDerailed 14 = .ok (.astore_n 2, 1) := by decide +kernel
theorem dL_isDerailed_15 : decode cL_isDerailed 15 = .ok (.bipush (-77), 2) := by decide +kernel
theorem dL_isDerailed_17 : decode cL_isDerailed 17 = .ok (.ireturn, 1) := by decide +kernel
theorem dL_waits_0 : decode cL_waits 0 = .ok (.aload_n 0, 1) := by decide +kernel
theorem dL_waits_1 : decode cL_waits 1 = .ok (.iload_n 1, 1) := by decide +kernel
theorem dL_waits_2 : decode cL_waits 2 = .ok (.invokevirtual 118, 3) := by decide +kernel
theorem dL_waits_5 : decode cL_waits 5 = .ok (.ireturn, 1) := by decide +kernel
theorem dL_waits_6 : decode cL_waits 6 = .ok (.astore_n 2, 1) := by decide +kernel
theorem dL_waits_7 : decode cL_waits 7 = .ok (.bipush (-77), 2) := by decide +kernel
theorem dL_waits_9 : decode cL_waits 9 = .ok (.ireturn, 1) := by decide +kernel
theorem dL_trainByPriority_0 : decode cL_trainByPriority 0 = .ok (.aload_n 0, 1) := by decide +kernel
theorem dL_trainByPriority_1 : decode cL_trainByPriority 1 = .ok (.iload_n 1, 1) := by decide +kernel
theorem dL_trainByPriority_2 : decode cL_trainByPriority 2 = .ok (.invokevirtual 121, 3) := by decide +kernel
theorem dL_trainByPriority_5 : decode cL_trainByPriority 5 = .ok (.ireturn, 1) := by decide +kernel
theorem dL_trainByPriority_6 : decode cL_trainByPriority 6 = .ok (.astore_n 2, 1) := by decide +kernel
theorem dL_trainByPriority_7 : decode cL_trainByPriority 7 = .ok (.bipush (-75), 2) := by decide +kernel
theorem dL_trainByPriority_9 : decode cL_trainByPriority 9 = .ok (.ireturn, 1) := by decide +kernel
theorem dL_blockedBy_0 : decode cL_blockedBy 0 = .ok (.aload_n 0, 1) := by decide +kernel
theorem dL_blockedBy_1 : decode cL_blockedBy 1 = .ok (.iload_n 1, 1) := by decide +kernel
theorem dL_blockedBy_2 : decode cL_blockedBy 2 = .ok (.invokevirtual 124, 3) := by decide +kernel
theorem dL_blockedBy_5 : decode cL_blockedBy 5 = .ok (.ireturn, 1) := by decide +kernel
theorem dL_blockedBy_6 : decode cL_blockedBy 6 = .ok (.astore_n 2, 1) := by decide +kernel
theorem dL_blockedBy_7 : decode cL_blockedBy 7 = .ok (.bipush (-77), 2) := by decide +kernel
theorem dL_blockedBy_9 : decode cL_blockedBy 9 = .ok (.ireturn, 1) := by decide +kernel
theorem dL_blockedBy_10 : decode cL_blockedBy 10 = .ok (.astore_n 2, 1) := by decide +kernel
theorem dL_blockedBy_11 : decode cL_blockedBy 11 = .ok (.bipush (-75), 2) := by decide +kernel
theorem dL_blockedBy_13 : decode cL_blockedBy 13 = .ok (.ireturn, 1) := by decide +kernel
theorem dL_passTicks_0 : decode cL_passTicks 0 = .ok (.aload_n 0, 1) := by decide +kernel
theorem dL_passTicks_1 : decode cL_passTicks 1 = .ok (.iload_n 1, 1) := by decide +kernel
theorem dL_passTicks_2 : decode cL_passTicks 2 = .ok (.invokevirtual 127, 3) := by decide +kernel
theorem dL_passTicks_5 : decode cL_passTicks 5 = .ok (.ireturn, 1) := by decide +kernel
theorem dL_passTicks_6 : decode cL_passTicks 6 = .ok (.astore_n 2, 1) := by decide +kernel
theorem dL_passTicks_7 : decode cL_passTicks 7 = .ok (.bipush (-78), 2) := by decide +kernel
theorem dL_passTicks_9 : decode cL_passTicks 9 = .ok (.ireturn, 1) := by decide +kernel
theorem dL_ticksUntilArrival_0 : decode cL_ticksUntilArrival 0 = .ok (.aload_n 0, 1) := by decide +kernel
theorem dL_ticksUntilArrival_1 : decode cL_ticksUntilArrival 1 = .ok (.iload_n 1, 1) := by decide +kernel
theorem dL_ticksUntilArrival_2 : decode cL_ticksUntilArrival 2 = .ok (.invokevirtual 130, 3) := by decide +kernel
theorem dL_ticksUntilArrival_5 : decode cL_ticksUntilArrival 5 = .ok (.ireturn, 1) := by decide +kernel
theorem dL_ticksUntilArrival_6 : decode cL_ticksUntilArrival 6 = .ok (.astore_n 2, 1) := by decide +kernel
theorem dL_ticksUntilArrival_7 : decode cL_ticksUntilArrival 7 = .ok (.bipush (-77), 2) := by decide +kernel
theorem dL_ticksUntilArrival_9 : decode cL_ticksUntilArrival 9 = .ok (.ireturn, 1) := by decide +kernel
theorem dL_ticksUntilArrival_10 : decode cL_ticksUntilArrival 10 = .ok (.astore_n 2, 1) := by decide +kernel
theorem dL_ticksUntilArrival_11 : decode cL_ticksUntilArrival 11 = .ok (.bipush (-75), 2) := by decide +kernel
theorem dL_ticksUntilArrival_13 : decode cL_ticksUntilArrival 13 = .ok (.ireturn, 1) := by decide +kernel
theorem dL_meanWaits_0 : decode cL_meanWaits 0 = .ok (.aload_n 0, 1) := by decide +kernel
theorem dL_meanWaits_1 : decode cL_meanWaits 1 = .ok (.invokevirtual 133, 3) := by decide +kernel
theorem dL_meanWaits_4 : decode cL_meanWaits 4 = .ok (.dreturn, 1) := by decide +kernel
theorem dL_meanWaits_5 : decode cL_meanWaits 5 = .ok (.astore_n 1, 1) := by decide +kernel
theorem dL_meanWaits_6 : decode cL_meanWaits 6 = .ok (.ldc2_w 139, 3) := by decide +kernel
theorem dL_meanWaits_9 : decode cL_meanWaits 9 = .ok (.dreturn, 1) := by decide +kernel
theorem dL_occupiedFraction_0 : decode cL_occupiedFraction 0 = .ok (.aload_n 0, 1) := by decide +kernel
theorem dL_occupiedFraction_1 : decode cL_occupiedFraction 1 = .ok (.invokevirtual 141, 3) := by decide +kernel
theorem dL_occupiedFraction_4 : decode cL_occupiedFraction 4 = .ok (.freturn, 1) := by decide +kernel
theorem dL_occupiedFraction_5 : decode cL_occupiedFraction 5 = .ok (.astore_n 1, 1) := by decide +kernel
theorem dL_occupiedFraction_6 : decode cL_occupiedFraction 6 = .ok (.ldc 145, 2) := by decide +kernel
theorem dL_occupiedFraction_8 : decode cL_occupiedFraction 8 = .ok (.freturn, 1) := by decide +kernel
theorem dL_feed_0 : decode cL_feed 0 = .ok (.aload_n 0, 1) := by decide +kernel
theorem dL_feed_1 : decode cL_feed 1 = .ok (.iload_n 1, 1) := by decide +kernel
theorem dL_feed_2 : decode cL_feed 2 = .ok (.invokevirtual 152, 3) := by decide +kernel
theorem dL_feed_5 : decode cL_feed 5 = .ok (.ireturn, 1) := by decide +kernel
theorem dL_feed_6 : decode cL_feed 6 = .ok (.astore_n 2, 1) := by decide +kernel
theorem dL_feed_7 : decode cL_feed 7 = .ok (.bipush (-79), 2) := by decide +kernel
theorem dL_feed_9 : decode cL_feed 9 = .ok (.ireturn, 1) := by decide +kernel
theorem dL_execute_0 : decode cL_execute 0 = .ok (.aload_n 0, 1) := by decide +kernel
theorem dL_execute_1 : decode cL_execute 1 = .ok (.invokevirtual 156, 3) := by decide +kernel
theorem dL_execute_4 : decode cL_execute 4 = .ok (.ireturn, 1) := by decide +kernel
theorem dL_execute_5 : decode cL_execute 5 = .ok (.astore_n 1, 1) := by decide +kernel
theorem dL_execute_6 : decode cL_execute 6 = .ok (.bipush (-78), 2) := by decide +kernel
theorem dL_execute_8 : decode cL_execute 8 = .ok (.ireturn, 1) := by decide +kernel
theorem dL_execute_9 : decode cL_execute 9 = .ok (.astore_n 1, 1) := by decide +kernel
theorem dL_execute_10 : decode cL_execute 10 = .ok (.bipush (-76), 2) := by decide +kernel
theorem dL_execute_12 : decode cL_execute 12 = .ok (.ireturn, 1) := by decide +kernel
theorem dL_undo_0 : decode cL_undo 0 = .ok (.aload_n 0, 1) := by decide +kernel
theorem dL_undo_1 : decode cL_undo 1 = .ok (.invokevirtual 166, 3) := by decide +kernel
theorem dL_undo_4 : decode cL_undo 4 = .ok (.ireturn, 1) := by decide +kernel
theorem dL_undo_5 : decode cL_undo 5 = .ok (.astore_n 1, 1) := by decide +kernel
theorem dL_undo_6 : decode cL_undo 6 = .ok (.bipush (-79), 2) := by decide +kernel
theorem dL_undo_8 : decode cL_undo 8 = .ok (.ireturn, 1) := by decide +kernel
theorem dL_restore_0 : decode cL_restore 0 = .ok (.aload_n 0, 1) := by decide +kernel
theorem dL_restore_1 : decode cL_restore 1 = .ok (.invokevirtual 169, 3) := by decide +kernel
theorem dL_restore_4 : decode cL_restore 4 = .ok (.ireturn, 1) := by decide +kernel
theorem dL_restore_5 : decode cL_restore 5 = .ok (.astore_n 1, 1) := by decide +kernel
theorem dL_restore_6 : decode cL_restore 6 = .ok (.bipush (-79), 2) := by decide +kernel
theorem dL_restore_8 : decode cL_restore 8 = .ok (.ireturn, 1) := by decide +kernel
theorem dL_runs_0 : decode cL_runs 0 = .ok (.iconst 0, 1) := by decide +kernel
theorem dL_runs_1 : decode cL_runs 1 = .ok (.istore_n 2, 1) := by decide +kernel
theorem dL_runs_2 : decode cL_runs 2 = .ok (.iload_n 2, 1) := by decide +kernel
theorem dL_runs_3 : decode cL_runs 3 = .ok (.aload_n 1, 1) := by decide +kernel
theorem dL_runs_4 : decode cL_runs 4 = .ok (.invokevirtual 172, 3) := by decide +kernel
theorem dL_runs_7 : decode cL_runs 7 = .ok (.if_icmp .ge 19, 3) := by decide +kernel
theorem dL_runs_10 : decode cL_runs 10 = .ok (.aload_n 0, 1) := by decide +kernel
theorem dL_runs_11 : decode cL_runs 11 = .ok (.aload_n 1, 1) := by decide +kernel
theorem dL_runs_12 : decode cL_runs 12 = .ok (.iload_n 2, 1) := by decide +kernel
theorem dL_runs_13 : decode cL_runs 13 = .ok (.invokevirtual 176, 3) := by decide +kernel
theorem dL_runs_16 : decode cL_runs 16 = .ok (.invokestatic 179, 3) := by decide +kernel
theorem dL_runs_19 : decode cL_runs 19 = .ok (.istore_n 3, 1) := by decide +kernel
theorem dL_runs_20 : decode cL_runs 20 = .ok (.iinc 2 1, 3) := by decide +kernel
theorem dL_runs_23 : decode cL_runs 23 = .ok (.goto (-21), 3) := by decide +kernel
theorem dL_runs_26 : decode cL_runs 26 = .ok (.aload_n 0, 1) := by decide +kernel
theorem dL_runs_27 : decode cL_runs 27 = .ok (.invokestatic 182, 3) := by decide +kernel
theorem dL_runs_30 : decode cL_runs 30 = .ok (.ireturn, 1) := by decide +kernel
theorem dL_law_0 : decode cL_law 0 = .ok (.new 15, 3) := by decide +kernel
theorem dL_law_3 : decode cL_law 3 = .ok (.dup, 1) := by decide +kernel
theorem dL_law_4 : decode cL_law 4 = .ok (.invokespecial 188, 3) := by decide +kernel
theorem dL_law_7 : decode cL_law 7 = .ok (.astore_n 1, 1) := by decide +kernel
theorem dL_law_8 : decode cL_law 8 = .ok (.bipush 80, 2) := by decide +kernel
theorem dL_law_10 : decode cL_law 10 = .ok (.newarray .long, 2) := by decide +kernel
theorem dL_law_12 : decode cL_law 12 = .ok (.astore_n 2, 1) := by decide +kernel
theorem dL_law_13 : decode cL_law 13 = .ok (.iconst 0, 1) := by decide +kernel
theorem dL_law_14 : decode cL_law 14 = .ok (.istore_n 3, 1) := by decide +kernel
theorem dL_law_15 : decode cL_law 15 = .ok (.aload_n 2, 1) := by decide +kernel
theorem dL_law_16 : decode cL_law 16 = .ok (.iload_n 3, 1) := by decide +kernel
theorem dL_law_17 : decode cL_law 17 = .ok (.aload_n 1, 1) := by decide +kernel
theorem dL_law_18 : decode cL_law 18 = .ok (.invokestatic 189, 3) := by decide +kernel
theorem dL_law_21 : decode cL_law 21 = .ok (.lastore, 1) := by decide +kernel
theorem dL_law_22 : decode cL_law 22 = .ok (.iconst 0, 1) := by decide +kernel
theorem dL_law_23 : decode cL_law 23 = .ok (.istore 4, 2) := by decide +kernel
theorem dL_law_25 : decode cL_law 25 = .ok (.iconst 0, 1) := by decide +kernel
theorem dL_law_26 : decode cL_law 26 = .ok (.istore 5, 2) := by decide +kernel
theorem dL_law_28 : decode cL_law 28 = .ok (.iload 5, 2) := by decide +kernel
theorem dL_law_30 : decode cL_law 30 = .ok (.bipush 60, 2) := by decide +kernel
theorem dL_law_32 : decode cL_law 32 = .ok (.if_icmp .ge 435, 3) := by decide +kernel
theorem dL_law_35 : decode cL_law 35 = .ok (.aload_n 1, 1) := by decide +kernel
theorem dL_law_36 : decode cL_law 36 = .ok (.invokestatic 189, 3) := by decide +kernel
theorem dL_law_39 : decode cL_law 39 = .ok (.lstore 6, 2) := by decide +kernel
theorem dL_law_41 : decode cL_law 41 = .ok (.aload_n 1, 1) := by decide +kernel
theorem dL_law_42 : decode cL_law 42 = .ok (.invokevirtual 193, 3) := by decide +kernel
theorem dL_law_45 : decode cL_law 45 = .ok (.istore 8, 2) := by decide +kernel
theorem dL_law_47 : decode cL_law 47 = .ok (.iload 5, 2) := by decide +kernel
theorem dL_law_49 : decode cL_law 49 = .ok (.bipush 6, 2) := by decide +kernel
theorem dL_law_51 : decode cL_law 51 = .ok (.if_icmp .ge 7, 3) := by decide +kernel
theorem dL_law_54 : decode cL_law 54 = .ok (.iconst 0, 1) := by decide +kernel
theorem dL_law_55 : decode cL_law 55 = .ok (.goto 47, 3) := by decide +kernel
theorem dL_law_58 : decode cL_law 58 = .ok (.iload 5, 2) := by decide +kernel
theorem dL_law_60 : decode cL_law 60 = .ok (.bipush 12, 2) := by decide +kernel
theorem dL_law_62 : decode cL_law 62 = .ok (.if_icmp .ge 8, 3) := by decide +kernel
theorem dL_law_65 : decode cL_law 65 = .ok (.bipush 6, 2) := by decide +kernel
theorem dL_law_67 : decode cL_law 67 = .ok (.goto 35, 3) := by decide +kernel
theorem dL_law_70 : decode cL_law 70 = .ok (.iload 5, 2) := by decide +kernel
theorem dL_law_72 : decode cL_law 72 = .ok (.bipush 14, 2) := by decide +kernel
theorem dL_law_74 : decode cL_law 74 = .ok (.if_icmp .ge 8, 3) := by decide +kernel
theorem dL_law_77 : decode cL_law 77 = .ok (.bipush 14, 2) := by decide +kernel
theorem dL_law_79 : decode cL_law 79 = .ok (.goto 23, 3) := by decide +kernel
theorem dL_law_82 : decode cL_law 82 = .ok (.iload 5, 2) := by decide +kernel
theorem dL_law_84 : decode cL_law 84 = .ok (.bipush 16, 2) := by decide +kernel
theorem dL_law_86 : decode cL_law 86 = .ok (.if_icmp .ge 8, 3) := by decide +kernel
theorem dL_law_89 : decode cL_law 89 = .ok (.bipush 18, 2) := by decide +kernel
theorem dL_law_91 : decode cL_law 91 = .ok (.goto 11, 3) := by decide +kernel
theorem dL_law_94 : decode cL_law 94 = .ok (.aload_n 0, 1) := by decide +kernel
theorem dL_law_95 : decode cL_law 95 = .ok (.iload 4, 2) := by decide +kernel
theorem dL_law_97 : decode cL_law 97 = .ok (.bipush 50, 2) := by decide +kernel
theorem dL_law_99 : decode cL_law 99 = .ok (.invokestatic 196, 3) := by decide +kernel
theorem dL_law_102 : decode cL_law 102 = .ok (.istore 9, 2) := by decide +kernel
theorem dL_law_104 : decode cL_law 104 = .ok (.aload_n 0, 1) := by decide +kernel
theorem dL_law_105 : decode cL_law 105 = .ok (.iload 4, 2) := by decide +kernel
theorem dL_law_107 : decode cL_law 107 = .ok (.iconst 1, 1) := by decide +kernel
theorem dL_law_108 : decode cL_law 108 = .ok (.iadd, 1) := by decide +kernel
theorem dL_law_109 : decode cL_law 109 = .ok (.aload_n 1, 1) := by decide +kernel
theorem dL_law_110 : decode cL_law 110 = .ok (.invokevirtual 200, 3) := by decide +kernel
theorem dL_law_113 : decode cL_law 113 = .ok (.iload 5, 2) := by decide +kernel
theorem dL_law_115 : decode cL_law 115 = .ok (.bipush 13, 2) := by decide +kernel
theorem dL_law_117 : decode cL_law 117 = .ok (.irem, 1) := by decide +kernel
theorem dL_law_118 : decode cL_law 118 = .ok (.bipush 12, 2) := by decide +kernel
theorem dL_law_120 : decode cL_law 120 = .ok (.if_icmp .eq 10, 3) := by decide +kernel
theorem dL_law_123 : decode cL_law 123 = .ok (.aload_n 1, 1) := by decide +kernel
theorem dL_law_124 : decode cL_law 124 = .ok (.invokevirtual 200, 3) := by decide +kernel
theorem dL_law_127 : decode cL_law 127 = .ok (.ifCond .ne 7, 3) := by decide +kernel
theorem dL_law_130 : decode cL_law 130 = .ok (.iconst 1, 1) := by decide +kernel
theorem dL_law_131 : decode cL_law 131 = .ok (.goto 4, 3) := by decide +kernel
theorem dL_law_134 : decode cL_law 134 = .ok (.iconst 0, 1) := by decide +kernel
theorem dL_law_135 : decode cL_law 135 = .ok (.iadd, 1) := by decide +kernel
theorem dL_law_136 : decode cL_law 136 = .ok (.invokestatic 196, 3) := by decide +kernel
theorem dL_law_139 : decode cL_law 139 = .ok (.istore 10, 2) := by decide +kernel
theorem dL_law_141 : decode cL_law 141 = .ok (.aload_n 0, 1) := by decide +kernel
theorem dL_law_142 : decode cL_law 142 = .ok (.iload 4, 2) := by decide +kernel
theorem dL_law_144 : decode cL_law 144 = .ok (.iconst 2, 1) := by decide +kernel
theorem dL_law_145 : decode cL_law 145 = .ok (.iadd, 1) := by decide +kernel
theorem dL_law_146 : decode cL_law 146 = .ok (.bipush 8, 2) := by decide +kernel
theorem dL_law_148 : decode cL_law 148 = .ok (.invokestatic 196, 3) := by decide +kernel
theorem dL_law_151 : decode cL_law 151 = .ok (.istore 11, 2) := by decide +kernel
theorem dL_law_153 : decode cL_law 153 = .ok (.aload_n 1, 1) := by decide +kernel
theorem dL_law_154 : decode cL_law 154 = .ok (.iload 10, 2) := by decide +kernel
theorem dL_law_156 : decode cL_law 156 = .ok (.invokestatic 203, 3) := by decide +kernel
theorem dL_law_159 : decode cL_law 159 = .ok (.istore 12, 2) := by decide +kernel
theorem dL_law_161 : decode cL_law 161 = .ok (.aload_n 1, 1) := by decide +kernel
theorem dL_law_162 : decode cL_law 162 = .ok (.invokevirtual 205, 3) := by decide +kernel
theorem dL_law_165 : decode cL_law 165 = .ok (.istore 13, 2) := by decide +kernel
theorem dL_law_167 : decode cL_law 167 = .ok (.aload_n 1, 1) := by decide +kernel
theorem dL_law_168 : decode cL_law 168 = .ok (.invokevirtual 208, 3) := by decide +kernel
theorem dL_law_171 : decode cL_law 171 = .ok (.istore 14, 2) := by decide +kernel
theorem dL_law_173 : decode cL_law 173 = .ok (.aload_n 1, 1) := by decide +kernel
theorem dL_law_174 : decode cL_law 174 = .ok (.iload 10, 2) := by decide +kernel
theorem dL_law_176 : decode cL_law 176 = .ok (.invokestatic 211, 3) := by decide +kernel
theorem dL_law_179 : decode cL_law 179 = .ok (.istore 15, 2) := by decide +kernel
theorem dL_law_181 : decode cL_law 181 = .ok (.aload_n 0, 1) := by decide +kernel
theorem dL_law_182 : decode cL_law 182 = .ok (.iload 4, 2) := by decide +kernel
theorem dL_law_184 : decode cL_law 184 = .ok (.iload 9, 2) := by decide +kernel
theorem dL_law_186 : decode cL_law 186 = .ok (.aload_n 1, 1) := by decide +kernel
theorem dL_law_187 : decode cL_law 187 = .ok (.iload 10, 2) := by decide +kernel
theorem dL_law_189 : decode cL_law 189 = .ok (.iload 11, 2) := by decide +kernel
theorem dL_law_191 : decode cL_law 191 = .ok (.invokestatic 213, 3) := by decide +kernel
theorem dL_law_194 : decode cL_law 194 = .ok (.istore 16, 2) := by decide +kernel
theorem dL_law_196 : decode cL_law 196 = .ok (.iload 9, 2) := by decide +kernel
theorem dL_law_198 : decode cL_law 198 = .ok (.bipush 38, 2) := by decide +kernel
theorem dL_law_200 : decode cL_law 200 = .ok (.if_icmp .le 21, 3) := by decide +kernel
theorem dL_law_203 : decode cL_law 203 = .ok (.iload 9, 2) := by decide +kernel
theorem dL_law_205 : decode cL_law 205 = .ok (.bipush 46, 2) := by decide +kernel
theorem dL_law_207 : decode cL_law 207 = .ok (.if_icmp .ge 14, 3) := by decide +kernel
theorem dL_law_210 : decode cL_law 210 = .ok (.iload 16, 2) := by decide +kernel
theorem dL_law_212 : decode cL_law 212 = .ok (.bipush (-70), 2) := by decide +kernel
theorem dL_law_214 : decode cL_law 214 = .ok (.if_icmp .le 7, 3) := by decide +kernel
theorem dL_law_217 : decode cL_law 217 = .ok (.iconst 1, 1) := by decide +kernel
theorem dL_law_218 : decode cL_law 218 = .ok (.goto 4, 3) := by decide +kernel
theorem dL_law_221 : decode cL_law 221 = .ok (.iconst 0, 1) := by decide +kernel
theorem dL_law_222 : decode cL_law 222 = .ok (.istore 17, 2) := by decide +kernel
theorem dL_law_224 : decode cL_law 224 = .ok (.iload 17, 2) := by decide +kernel
theorem dL_law_226 : decode cL_law 226 = .ok (.ifCond .eq 27, 3) := by decide +kernel
theorem dL_law_229 : decode cL_law 229 = .ok (.aload_n 1, 1) := by decide +kernel
theorem dL_law_230 : decode cL_law 230 = .ok (.invokevirtual 208, 3) := by decide +kernel
theorem dL_law_233 : decode cL_law 233 = .ok (.iload 14, 2) := by decide +kernel
theorem dL_law_235 : decode cL_law 235 = .ok (.iload 11, 2) := by decide +kernel
theorem dL_law_237 : decode cL_law 237 = .ok (.iadd, 1) := by decide +kernel
theorem dL_law_238 : decode cL_law 238 = .ok (.if_icmp .ne 19, 3) := by decide +kernel
theorem dL_law_241 : decode cL_law 241 = .ok (.aload_n 1, 1) := by decide +kernel
theorem dL_law_242 : decode cL_law 242 = .ok (.invokevirtual 205, 3) := by decide +kernel
theorem dL_law_245 : decode cL_law 245 = .ok (.iload 13, 2) := by decide +kernel
theorem dL_law_247 : decode cL_law 247 = .ok (.iload 16, 2) := by decide +kernel
theorem dL_law_249 : decode cL_law 249 = .ok (.iadd, 1) := by decide +kernel
theorem dL_law_250 : decode cL_law 250 = .ok (.if_icmp .ne 7, 3) := by decide +kernel
theorem dL_law_253 : decode cL_law 253 = .ok (.iconst 1, 1) := by decide +kernel
theorem dL_law_254 : decode cL_law 254 = .ok (.goto 4, 3) := by decide +kernel
theorem dL_law_257 : decode cL_law 257 = .ok (.iconst 0, 1) := by decide +kernel
theorem dL_law_258 : decode cL_law 258 = .ok (.istore 18, 2) := by decide +kernel
theorem dL_law_260 : decode cL_law 260 = .ok (.iload 18, 2) := by decide +kernel
theorem dL_law_262 : decode cL_law 262 = .ok (.iload 17, 2) := by decide +kernel
theorem dL_law_264 : decode cL_law 264 = .ok (.ifCond .eq 44, 3) := by decide +kernel
theorem dL_law_267 : decode cL_law 267 = .ok (.iload 15, 2) := by decide +kernel
theorem dL_law_269 : decode cL_law 269 = .ok (.ifCond .lt 39, 3) := by decide +kernel
theorem dL_law_272 : decode cL_law 272 = .ok (.aload_n 1, 1) := by decide +kernel
theorem dL_law_273 : decode cL_law 273 = .ok (.iload 10, 2) := by decide +kernel
theorem dL_law_275 : decode cL_law 275 = .ok (.invokestatic 211, 3) := by decide +kernel
theorem dL_law_278 : decode cL_law 278 = .ok (.bipush (-75), 2) := by decide +kernel
theorem dL_law_280 : decode cL_law 280 = .ok (.if_icmp .ne 7, 3) := by decide +kernel
theorem dL_law_283 : decode cL_law 283 = .ok (.iconst 1, 1) := by decide +kernel
theorem dL_law_284 : decode cL_law 284 = .ok (.goto 4, 3) := by decide +kernel
theorem dL_law_287 : decode cL_law 287 = .ok (.iconst 0, 1) := by decide +kernel
theorem dL_law_288 : decode cL_law 288 = .ok (.iload 12, 2) := by decide +kernel
theorem dL_law_290 : decode cL_law 290 = .ok (.ifCond .le 14, 3) := by decide +kernel
theorem dL_law_293 : decode cL_law 293 = .ok (.iload 12, 2) := by decide +kernel
theorem dL_law_295 : decode cL_law 295 = .ok (.iload 11, 2) := by decide +kernel
theorem dL_law_297 : decode cL_law 297 = .ok (.if_icmp .gt 7, 3) := by decide +kernel
theorem dL_law_300 : decode cL_law 300 = .ok (.iconst 1, 1) := by decide +kernel
theorem dL_law_301 : decode cL_law 301 = .ok (.goto 4, 3) := by decide +kernel
theorem dL_law_304 : decode cL_law 304 = .ok (.iconst 0, 1) := by decide +kernel
theorem dL_law_305 : decode cL_law 305 = .ok (.if_icmp .ne 7, 3) := by decide +kernel
theorem dL_law_308 : decode cL_law 308 = .ok (.iconst 1, 1) := by decide +kernel
theorem dL_law_309 : decode cL_law 309 = .ok (.goto 4, 3) := by decide +kernel
theorem dL_law_312 : decode cL_law 312 = .ok (.iconst 0, 1) := by decide +kernel
theorem dL_law_313 : decode cL_law 313 = .ok (.iand, 1) := by decide +kernel
theorem dL_law_314 : decode cL_law 314 = .ok (.istore 18, 2) := by decide +kernel
theorem dL_law_316 : decode cL_law 316 = .ok (.iload 18, 2) := by decide +kernel
theorem dL_law_318 : decode cL_law 318 = .ok (.iload 17, 2) := by decide +kernel
theorem dL_law_320 : decode cL_law 320 = .ok (.ifCond .eq 24, 3) := by decide +kernel
theorem dL_law_323 : decode cL_law 323 = .ok (.iload 12, 2) := by decide +kernel
theorem dL_law_325 : decode cL_law 325 = .ok (.iload 11, 2) := by decide +kernel
theorem dL_law_327 : decode cL_law 327 = .ok (.if_icmp .le 17, 3) := by decide +kernel
theorem dL_law_330 : decode cL_law 330 = .ok (.aload_n 1, 1) := by decide +kernel
theorem dL_law_331 : decode cL_law 331 = .ok (.iload 10, 2) := by decide +kernel
theorem dL_law_333 : decode cL_law 333 = .ok (.invokestatic 203, 3) := by decide +kernel
theorem dL_law_336 : decode cL_law 336 = .ok (.iload 12, 2) := by decide +kernel
theorem dL_law_338 : decode cL_law 338 = .ok (.iload 11, 2) := by decide +kernel
theorem dL_law_340 : decode cL_law 340 = .ok (.isub, 1) := by decide +kernel
theorem dL_law_341 : decode cL_law 341 = .ok (.if_icmp .ne 7, 3) := by decide +kernel
theorem dL_law_344 : decode cL_law 344 = .ok (.iconst 1, 1) := by decide +kernel
theorem dL_law_345 : decode cL_law 345 = .ok (.goto 4, 3) := by decide +kernel
theorem dL_law_348 : decode cL_law 348 = .ok (.iconst 0, 1) := by decide +kernel
theorem dL_law_349 : decode cL_law 349 = .ok (.iand, 1) := by decide +kernel
theorem dL_law_350 : decode cL_law 350 = .ok (.istore 18, 2) := by decide +kernel
theorem dL_law_352 : decode cL_law 352 = .ok (.iload 18, 2) := by decide +kernel
theorem dL_law_354 : decode cL_law 354 = .ok (.iload 17, 2) := by decide +kernel
theorem dL_law_356 : decode cL_law 356 = .ok (.ifCond .eq 26, 3) := by decide +kernel
theorem dL_law_359 : decode cL_law 359 = .ok (.iload 15, 2) := by decide +kernel
theorem dL_law_361 : decode cL_law 361 = .ok (.ifCond .lt 21, 3) := by decide +kernel
theorem dL_law_364 : decode cL_law 364 = .ok (.iload 12, 2) := by decide +kernel
theorem dL_law_366 : decode cL_law 366 = .ok (.ifCond .lt 16, 3) := by decide +kernel
theorem dL_law_369 : decode cL_law 369 = .ok (.iload 12, 2) := by decide +kernel
theorem dL_law_371 : decode cL_law 371 = .ok (.iload 11, 2) := by decide +kernel
theorem dL_law_373 : decode cL_law 373 = .ok (.if_icmp .gt 9, 3) := by decide +kernel
theorem dL_law_376 : decode cL_law 376 = .ok (.iload 16, 2) := by decide +kernel
theorem dL_law_378 : decode cL_law 378 = .ok (.iconst 1, 1) := by decide +kernel
theorem dL_law_379 : decode cL_law 379 = .ok (.if_icmp .lt 7, 3) := by decide +kernel
theorem dL_law_382 : decode cL_law 382 = .ok (.iconst 1, 1) := by decide +kernel
theorem dL_law_383 : decode cL_law 383 = .ok (.goto 4, 3) := by decide +kernel
theorem dL_law_386 : decode cL_law 386 = .ok (.iconst 0, 1) := by decide +kernel
theorem dL_law_387 : decode cL_law 387 = .ok (.iand, 1) := by decide +kernel
theorem dL_law_388 : decode cL_law 388 = .ok (.istore 18, 2) := by decide +kernel
theorem dL_law_390 : decode cL_law 390 = .ok (.iinc 4 5, 3) := by decide +kernel
theorem dL_law_393 : decode cL_law 393 = .ok (.iload 18, 2) := by decide +kernel
theorem dL_law_395 : decode cL_law 395 = .ok (.ifCond .eq 26, 3) := by decide +kernel
theorem dL_law_398 : decode cL_law 398 = .ok (.aload_n 1, 1) := by decide +kernel
theorem dL_law_399 : decode cL_law 399 = .ok (.aload_n 0, 1) := by decide +kernel
theorem dL_law_400 : decode cL_law 400 = .ok (.iload 4, 2) := by decide +kernel
theorem dL_law_402 : decode cL_law 402 = .ok (.iload 5, 2) := by decide +kernel
theorem dL_law_404 : decode cL_law 404 = .ok (.iconst 5, 1) := by decide +kernel
theorem dL_law_405 : decode cL_law 405 = .ok (.irem, 1) := by decide +kernel
theorem dL_law_406 : decode cL_law 406 = .ok (.iconst 4, 1) := by decide +kernel
theorem dL_law_407 : decode cL_law 407 = .ok (.if_icmp .ne 7, 3) := by decide +kernel
theorem dL_law_410 : decode cL_law 410 = .ok (.iconst 1, 1) := by decide +kernel
theorem dL_law_411 : decode cL_law 411 = .ok (.goto 4, 3) := by decide +kernel
theorem dL_law_414 : decode cL_law 414 = .ok (.iconst 0, 1) := by decide +kernel
theorem dL_law_415 : decode cL_law 415 = .ok (.invokestatic 217, 3) := by decide +kernel
theorem dL_law_418 : decode cL_law 418 = .ok (.ifCond .ne 5, 3) := by decide +kernel
theorem dL_law_421 : decode cL_law 421 = .ok (.iconst 0, 1) := by decide +kernel
theorem dL_law_422 : decode cL_law 422 = .ok (.ireturn, 1) := by decide +kernel
theorem dL_law_423 : decode cL_law 423 = .ok (.iload 16, 2) := by decide +kernel
theorem dL_law_425 : decode cL_law 425 = .ok (.bipush (-74), 2) := by decide +kernel
theorem dL_law_427 : decode cL_law 427 = .ok (.if_icmp .gt 24, 3) := by decide +kernel
theorem dL_law_430 : decode cL_law 430 = .ok (.aload_n 1, 1) := by decide +kernel
theorem dL_law_431 : decode cL_law 431 = .ok (.invokestatic 189, 3) := by decide +kernel
theorem dL_law_434 : decode cL_law 434 = .ok (.lload 6, 2) := by decide +kernel
theorem dL_law_436 : decode cL_law 436 = .ok (.lcmp, 1) := by decide +kernel
theorem dL_law_437 : decode cL_law 437 = .ok (.ifCond .ne 12, 3) := by decide +kernel
theorem dL_law_440 : decode cL_law 440 = .ok (.aload_n 1, 1) := by decide +kernel
theorem dL_law_441 : decode cL_law 441 = .ok (.invokevirtual 193, 3) := by decide +kernel
theorem dL_law_444 : decode cL_law 444 = .ok (.iload 8, 2) := by decide +kernel
theorem dL_law_446 : decode cL_law 446 = .ok (.if_icmp .eq 15, 3) := by decide +kernel
theorem dL_law_449 : decode cL_law 449 = .ok (.iconst 0, 1) := by decide +kernel
theorem dL_law_450 : decode cL_law 450 = .ok (.ireturn, 1) := by decide +kernel
theorem dL_law_451 : decode cL_law 451 = .ok (.iinc 3 1, 3) := by decide +kernel
theorem dL_law_454 : decode cL_law 454 = .ok (.aload_n 2, 1) := by decide +kernel
theorem dL_law_455 : decode cL_law 455 = .ok (.iload_n 3, 1) := by decide +kernel
theorem dL_law_456 : decode cL_law 456 = .ok (.aload_n 1, 1) := by decide +kernel
theorem dL_law_457 : decode cL_law 457 = .ok (.invokestatic 189, 3) := by decide +kernel
theorem dL_law_460 : decode cL_law 460 = .ok (.lastore, 1) := by decide +kernel
theorem dL_law_461 : decode cL_law 461 = .ok (.iinc 5 1, 3) := by decide +kernel
theorem dL_law_464 : decode cL_law 464 = .ok (.goto (-436), 3) := by decide +kernel
theorem dL_law_467 : decode cL_law 467 = .ok (.aload_n 1, 1) := by decide +kernel
theorem dL_law_468 : decode cL_law 468 = .ok (.aload_n 2, 1) := by decide +kernel
theorem dL_law_469 : decode cL_law 469 = .ok (.iload_n 3, 1) := by decide +kernel
theorem dL_law_470 : decode cL_law 470 = .ok (.invokestatic 221, 3) := by decide +kernel
theorem dL_law_473 : decode cL_law 473 = .ok (.ireturn, 1) := by decide +kernel
theorem dL_does_0 : decode cL_does 0 = .ok (.aload_n 0, 1) := by decide +kernel
theorem dL_does_1 : decode cL_does 1 = .ok (.iload_n 1, 1) := by decide +kernel
theorem dL_does_2 : decode cL_does 2 = .ok (.iconst 3, 1) := by decide +kernel
theorem dL_does_3 : decode cL_does 3 = .ok (.iadd, 1) := by decide +kernel
theorem dL_does_4 : decode cL_does 4 = .ok (.sipush 1000, 3) := by decide +kernel
theorem dL_does_7 : decode cL_does 7 = .ok (.invokestatic 196, 3) := by decide +kernel
theorem dL_does_10 : decode cL_does 10 = .ok (.istore 6, 2) := by decide +kernel
theorem dL_does_12 : decode cL_does 12 = .ok (.aload_n 0, 1) := by decide +kernel
theorem dL_does_13 : decode cL_does 13 = .ok (.iload_n 1, 1) := by decide +kernel
theorem dL_does_14 : decode cL_does 14 = .ok (.iconst 4, 1) := by decide +kernel
theorem dL_does_15 : decode cL_does 15 = .ok (.iadd, 1) := by decide +kernel
theorem dL_does_16 : decode cL_does 16 = .ok (.sipush 1000, 3) := by decide +kernel
theorem dL_does_19 : decode cL_does 19 = .ok (.invokestatic 196, 3) := by decide +kernel
theorem dL_does_22 : decode cL_does 22 = .ok (.istore 7, 2) := by decide +kernel
theorem dL_does_24 : decode cL_does 24 = .ok (.aload_n 3, 1) := by decide +kernel
theorem dL_does_25 : decode cL_does 25 = .ok (.invokevirtual 225, 3) := by decide +kernel
theorem dL_does_28 : decode cL_does 28 = .ok (.iload 6, 2) := by decide +kernel
theorem dL_does_30 : decode cL_does 30 = .ok (.bipush 19, 2) := by decide +kernel
theorem dL_does_32 : decode cL_does 32 = .ok (.irem, 1) := by decide +kernel
theorem dL_does_33 : decode cL_does 33 = .ok (.ifCond .eq 10, 3) := by decide +kernel
theorem dL_does_36 : decode cL_does 36 = .ok (.aload_n 3, 1) := by decide +kernel
theorem dL_does_37 : decode cL_does 37 = .ok (.invokevirtual 225, 3) := by decide +kernel
theorem dL_does_40 : decode cL_does 40 = .ok (.ifCond .ne 7, 3) := by decide +kernel
theorem dL_does_43 : decode cL_does 43 = .ok (.iconst 1, 1) := by decide +kernel
theorem dL_does_44 : decode cL_does 44 = .ok (.goto 4, 3) := by decide +kernel
theorem dL_does_47 : decode cL_does 47 = .ok (.iconst 0, 1) := by decide +kernel
theorem dL_does_48 : decode cL_does 48 = .ok (.iadd, 1) := by decide +kernel
theorem dL_does_49 : decode cL_does 49 = .ok (.istore 8, 2) := by decide +kernel
theorem dL_does_51 : decode cL_does 51 = .ok (.iload 7, 2) := by decide +kernel
theorem dL_does_53 : decode cL_does 53 = .ok (.iload 8, 2) := by decide +kernel
theorem dL_does_55 : decode cL_does 55 = .ok (.irem, 1) := by decide +kernel
theorem dL_does_56 : decode cL_does 56 = .ok (.istore 9, 2) := by decide +kernel
theorem dL_does_58 : decode cL_does 58 = .ok (.iload 6, 2) := by decide +kernel
theorem dL_does_60 : decode cL_does 60 = .ok (.iconst 3, 1) := by decide +kernel
theorem dL_does_61 : decode cL_does 61 = .ok (.irem, 1) := by decide +kernel
theorem dL_does_62 : decode cL_does 62 = .ok (.ifCond .ne 11, 3) := by decide +kernel
theorem dL_does_65 : decode cL_does 65 = .ok (.iload 6, 2) := by decide +kernel
theorem dL_does_67 : decode cL_does 67 = .ok (.iload 8, 2) := by decide +kernel
theorem dL_does_69 : decode cL_does 69 = .ok (.irem, 1) := by decide +kernel
theorem dL_does_70 : decode cL_does 70 = .ok (.goto 10, 3) := by decide +kernel
theorem dL_does_73 : decode cL_does 73 = .ok (.iload 9, 2) := by decide +kernel
theorem dL_does_75 : decode cL_does 75 = .ok (.iconst 1, 1) := by decide +kernel
theorem dL_does_76 : decode cL_does 76 = .ok (.iadd, 1) := by decide +kernel
theorem dL_does_77 : decode cL_does 77 = .ok (.iload 8, 2) := by decide +kernel
theorem dL_does_79 : decode cL_does 79 = .ok (.irem, 1) := by decide +kernel
theorem dL_does_80 : decode cL_does 80 = .ok (.istore 10, 2) := by decide +kernel
theorem dL_does_82 : decode cL_does 82 = .ok (.iload_n 2, 1) := by decide +kernel
theorem dL_does_83 : decode cL_does 83 = .ok (.tableswitch 338 0 45 #[197, 197, 197, 197, 248, 248, 248, 248, 248, 248, 248, 248, 257, 266, 273, 273, 273, 273, 285, 285, 285, 285, 285, 285, 285, 285, 285, 285, 294, 301, 301, 301, 301, 301, 310, 317, 324, 324, 324, 331, 331, 331, 331, 331, 331, 331], 197) := by decide +kernel
theorem dL_does_280 : decode cL_does 280 = .ok (.iload 6, 2) := by decide +kernel
theorem dL_does_282 : decode cL_does 282 = .ok (.iconst 2, 1) := by decide +kernel
theorem dL_does_283 : decode cL_does 283 = .ok (.irem, 1) := by decide +kernel
theorem dL_does_284 : decode cL_does 284 = .ok (.ifCond .ne 26, 3) := by decide +kernel
theorem dL_does_287 : decode cL_does 287 = .ok (.aload_n 3, 1) := by decide +kernel
theorem dL_does_288 : decode cL_does 288 = .ok (.iload 7, 2) := by decide +kernel
theorem dL_does_290 : decode cL_does 290 = .ok (.iload 6, 2) := by decide +kernel
theorem dL_does_292 : decode cL_does 292 = .ok (.iconst 5, 1) := by decide +kernel
theorem dL_does_293 : decode cL_does 293 = .ok (.irem, 1) := by decide +kernel
theorem dL_does_294 : decode cL_does 294 = .ok (.ifCond .ne 8, 3) := by decide +kernel
theorem dL_does_297 : decode cL_does 297 = .ok (.bipush 11, 2) := by decide +kernel
theorem dL_does_299 : decode cL_does 299 = .ok (.goto 4, 3) := by decide +kernel
theorem dL_does_302 : decode cL_does 302 = .ok (.iconst 3, 1) := by decide +kernel
theorem dL_does_303 : decode cL_does 303 = .ok (.irem, 1) := by decide +kernel
theorem dL_does_304 : decode cL_does 304 = .ok (.invokestatic 228, 3) := by decide +kernel
theorem dL_does_307 : decode cL_does 307 = .ok (.goto 23, 3) := by decide +kernel
theorem dL_does_310 : decode cL_does 310 = .ok (.aload_n 3, 1) := by decide +kernel
theorem dL_does_311 : decode cL_does 311 = .ok (.iload 7, 2) := by decide +kernel
theorem dL_does_313 : decode cL_does 313 = .ok (.iload 6, 2) := by decide +kernel
theorem dL_does_315 : decode cL_does 315 = .ok (.iconst 5, 1) := by decide +kernel
theorem dL_does_316 : decode cL_does 316 = .ok (.irem, 1) := by decide +kernel
theorem dL_does_317 : decode cL_does 317 = .ok (.ifCond .ne 8, 3) := by decide +kernel
theorem dL_does_320 : decode cL_does 320 = .ok (.bipush 11, 2) := by decide +kernel
theorem dL_does_322 : decode cL_does 322 = .ok (.goto 4, 3) := by decide +kernel
theorem dL_does_325 : decode cL_does 325 = .ok (.iconst 3, 1) := by decide +kernel
theorem dL_does_326 : decode cL_does 326 = .ok (.irem, 1) := by decide +kernel
theorem dL_does_327 : decode cL_does 327 = .ok (.invokestatic 230, 3) := by decide +kernel
theorem dL_does_330 : decode cL_does 330 = .ok (.ireturn, 1) := by decide +kernel
theorem dL_does_331 : decode cL_does 331 = .ok (.aload_n 3, 1) := by decide +kernel
theorem dL_does_332 : decode cL_does 332 = .ok (.iload 9, 2) := by decide +kernel
theorem dL_does_334 : decode cL_does 334 = .ok (.iload 10, 2) := by decide +kernel
theorem dL_does_336 : decode cL_does 336 = .ok (.invokestatic 232, 3) := by decide +kernel
